section
/-- a private method of a class that the tables say can be made, by its rows of tables_1 -/
def lw_okq (q : MethodName × Nat) : Prop := (q.1.cls ≠ "java/lang/invoke/MethodHandle" ∧ q.1.cls ≠ "java/lang/invoke/VarHandle") ∧ Cond.instantiable q.1.cls q.2 ∈ tables_1 ∧ Cond.privateMethod q.1 ∈ tables_1 ∧ Cond.instanceMethod q.1 ∈ tables_1
theorem lw_p0 : lw_okq (⟨"SpanningProbes$Search", "enter", "(I)V"⟩, 8) := ⟨⟨by decide +kernel, by decide +kernel⟩, List.mem_of_getElem? (i := 68) (by decide +kernel), List.mem_of_getElem? (i := 256) (by decide +kernel), List.mem_of_getElem? (i := 257) (by decide +kernel)⟩
theorem lw_p1 : lw_okq (⟨"SpanningProbes$Search", "lookAt", "(I)V"⟩, 8) := ⟨⟨by decide +kernel, by decide +kernel⟩, List.mem_of_getElem? (i := 68) (by decide +kernel), List.mem_of_getElem? (i := 267) (by decide +kernel), List.mem_of_getElem? (i := 268) (by decide +kernel)⟩
theorem lw_p2 : lw_okq (⟨"SpanningProbes$Links", "numberFrom", "(I)I"⟩, 9) := ⟨⟨by decide +kernel, by decide +kernel⟩, List.mem_of_getElem? (i := 144) (by decide +kernel), List.mem_of_getElem? (i := 297) (by decide +kernel), List.mem_of_getElem? (i := 298) (by decide +kernel)⟩
theorem lw_p3 : lw_okq (⟨"SpanningProbes$Links", "numberStarts", "(I)I"⟩, 9) := ⟨⟨by decide +kernel, by decide +kernel⟩, List.mem_of_getElem? (i := 144) (by decide +kernel), List.mem_of_getElem? (i := 305) (by decide +kernel), List.mem_of_getElem? (i := 306) (by decide +kernel)⟩
theorem lw_p4 : lw_okq (⟨"SpanningProbes$Loops", "loopOf", "(I)I"⟩, 4) := ⟨⟨by decide +kernel, by decide +kernel⟩, List.mem_of_getElem? (i := 104) (by decide +kernel), List.mem_of_getElem? (i := 313) (by decide +kernel), List.mem_of_getElem? (i := 314) (by decide +kernel)⟩
theorem lw_p5 : lw_okq (⟨"SpanningProbes$Loops", "deepen", "(I)V"⟩, 4) := ⟨⟨by decide +kernel, by decide +kernel⟩, List.mem_of_getElem? (i := 104) (by decide +kernel), List.mem_of_getElem? (i := 319) (by decide +kernel), List.mem_of_getElem? (i := 320) (by decide +kernel)⟩
theorem lw_p6 : lw_okq (⟨"SpanningProbes$Loops", "putInOrder", "()V"⟩, 4) := ⟨⟨by decide +kernel, by decide +kernel⟩, List.mem_of_getElem? (i := 104) (by decide +kernel), List.mem_of_getElem? (i := 324) (by decide +kernel), List.mem_of_getElem? (i := 325) (by decide +kernel)⟩
theorem lw_p7 : lw_okq (⟨"SpanningProbes$Loops", "weightOf", "(I)I"⟩, 4) := ⟨⟨by decide +kernel, by decide +kernel⟩, List.mem_of_getElem? (i := 104) (by decide +kernel), List.mem_of_getElem? (i := 328) (by decide +kernel), List.mem_of_getElem? (i := 329) (by decide +kernel)⟩
theorem lw_p8 : lw_okq (⟨"SpanningProbes$Tree", "join", "(II)Z"⟩, 3) := ⟨⟨by decide +kernel, by decide +kernel⟩, List.mem_of_getElem? (i := 125) (by decide +kernel), List.mem_of_getElem? (i := 337) (by decide +kernel), List.mem_of_getElem? (i := 338) (by decide +kernel)⟩
theorem lw_p9 : lw_okq (⟨"SpanningProbes$Links", "leaveOutBack", "([I)I"⟩, 9) := ⟨⟨by decide +kernel, by decide +kernel⟩, List.mem_of_getElem? (i := 144) (by decide +kernel), List.mem_of_getElem? (i := 355) (by decide +kernel), List.mem_of_getElem? (i := 356) (by decide +kernel)⟩
theorem lw_p10 : lw_okq (⟨"SpanningProbes$Links", "spreadOver", "(II)I"⟩, 9) := ⟨⟨by decide +kernel, by decide +kernel⟩, List.mem_of_getElem? (i := 144) (by decide +kernel), List.mem_of_getElem? (i := 361) (by decide +kernel), List.mem_of_getElem? (i := 362) (by decide +kernel)⟩
theorem lw_p11 : lw_okq (⟨"SpanningProbes", "knowsEdge", "(I)Z"⟩, 9) := ⟨⟨by decide +kernel, by decide +kernel⟩, List.mem_of_getElem? (i := 12) (by decide +kernel), List.mem_of_getElem? (i := 370) (by decide +kernel), List.mem_of_getElem? (i := 371) (by decide +kernel)⟩
theorem lw_p12 : lw_okq (⟨"SpanningProbes", "knowsBlock", "(I)Z"⟩, 9) := ⟨⟨by decide +kernel, by decide +kernel⟩, List.mem_of_getElem? (i := 12) (by decide +kernel), List.mem_of_getElem? (i := 382) (by decide +kernel), List.mem_of_getElem? (i := 383) (by decide +kernel)⟩
theorem lw_p13 : lw_okq (⟨"SpanningProbes", "isUnderWay", "()Z"⟩, 9) := ⟨⟨by decide +kernel, by decide +kernel⟩, List.mem_of_getElem? (i := 12) (by decide +kernel), List.mem_of_getElem? (i := 411) (by decide +kernel), List.mem_of_getElem? (i := 412) (by decide +kernel)⟩
theorem lw_p14 : lw_okq (⟨"SpanningProbes", "pass", "(I)V"⟩, 9) := ⟨⟨by decide +kernel, by decide +kernel⟩, List.mem_of_getElem? (i := 12) (by decide +kernel), List.mem_of_getElem? (i := 419) (by decide +kernel), List.mem_of_getElem? (i := 420) (by decide +kernel)⟩
theorem lw_p15 : lw_okq (⟨"SpanningProbes", "completeWay", "()V"⟩, 9) := ⟨⟨by decide +kernel, by decide +kernel⟩, List.mem_of_getElem? (i := 12) (by decide +kernel), List.mem_of_getElem? (i := 427) (by decide +kernel), List.mem_of_getElem? (i := 428) (by decide +kernel)⟩
def lw_privs_1 : List (MethodName × Nat) := [(⟨"SpanningProbes$Search", "enter", "(I)V"⟩, 8), (⟨"SpanningProbes$Search", "lookAt", "(I)V"⟩, 8), (⟨"SpanningProbes$Links", "numberFrom", "(I)I"⟩, 9), (⟨"SpanningProbes$Links", "numberStarts", "(I)I"⟩, 9), (⟨"SpanningProbes$Loops", "loopOf", "(I)I"⟩, 4), (⟨"SpanningProbes$Loops", "deepen", "(I)V"⟩, 4), (⟨"SpanningProbes$Loops", "putInOrder", "()V"⟩, 4), (⟨"SpanningProbes$Loops", "weightOf", "(I)I"⟩, 4), (⟨"SpanningProbes$Tree", "join", "(II)Z"⟩, 3), (⟨"SpanningProbes$Links", "leaveOutBack", "([I)I"⟩, 9), (⟨"SpanningProbes$Links", "spreadOver", "(II)I"⟩, 9), (⟨"SpanningProbes", "knowsEdge", "(I)Z"⟩, 9), (⟨"SpanningProbes", "knowsBlock", "(I)Z"⟩, 9), (⟨"SpanningProbes", "isUnderWay", "()Z"⟩, 9), (⟨"SpanningProbes", "pass", "(I)V"⟩, 9), (⟨"SpanningProbes", "completeWay", "()V"⟩, 9)]
theorem lw_r1 : ∀ q ∈ lw_privs_1, lw_okq q := List.forall_mem_cons.mpr ⟨lw_p0, List.forall_mem_cons.mpr ⟨lw_p1, List.forall_mem_cons.mpr ⟨lw_p2, List.forall_mem_cons.mpr ⟨lw_p3, List.forall_mem_cons.mpr ⟨lw_p4, List.forall_mem_cons.mpr ⟨lw_p5, List.forall_mem_cons.mpr ⟨lw_p6, List.forall_mem_cons.mpr ⟨lw_p7, List.forall_mem_cons.mpr ⟨lw_p8, List.forall_mem_cons.mpr ⟨lw_p9, List.forall_mem_cons.mpr ⟨lw_p10, List.forall_mem_cons.mpr ⟨lw_p11, List.forall_mem_cons.mpr ⟨lw_p12, List.forall_mem_cons.mpr ⟨lw_p13, List.forall_mem_cons.mpr ⟨lw_p14, List.forall_mem_cons.mpr ⟨lw_p15, fun _ h => absurd h List.not_mem_nil⟩⟩⟩⟩⟩⟩⟩⟩⟩⟩⟩⟩⟩⟩⟩⟩
theorem lw_p16 : lw_okq (⟨"SpanningProbes", "knowsWay", "(I)Z"⟩, 9) := ⟨⟨by decide +kernel, by decide +kernel⟩, List.mem_of_getElem? (i := 12) (by decide +kernel), List.mem_of_getElem? (i := 431) (by decide +kernel), List.mem_of_getElem? (i := 432) (by decide +kernel)⟩
theorem lw_p17 : lw_okq (⟨"SpanningProbes", "endRun", "()V"⟩, 9) := ⟨⟨by decide +kernel, by decide +kernel⟩, List.mem_of_getElem? (i := 12) (by decide +kernel), List.mem_of_getElem? (i := 435) (by decide +kernel), List.mem_of_getElem? (i := 436) (by decide +kernel)⟩
theorem lw_p18 : lw_okq (⟨"SpanningProbes$Counters", "runsLeftIn", "(II)I"⟩, 6) := ⟨⟨by decide +kernel, by decide +kernel⟩, List.mem_of_getElem? (i := 181) (by decide +kernel), List.mem_of_getElem? (i := 468) (by decide +kernel), List.mem_of_getElem? (i := 469) (by decide +kernel)⟩
theorem lw_p19 : lw_okq (⟨"SpanningProbes$Counters", "hitsOutOf", "(I)I"⟩, 6) := ⟨⟨by decide +kernel, by decide +kernel⟩, List.mem_of_getElem? (i := 181) (by decide +kernel), List.mem_of_getElem? (i := 473) (by decide +kernel), List.mem_of_getElem? (i := 474) (by decide +kernel)⟩
theorem lw_p20 : lw_okq (⟨"SpanningProbes$Counters", "passesInto", "(II)I"⟩, 6) := ⟨⟨by decide +kernel, by decide +kernel⟩, List.mem_of_getElem? (i := 181) (by decide +kernel), List.mem_of_getElem? (i := 485) (by decide +kernel), List.mem_of_getElem? (i := 486) (by decide +kernel)⟩
theorem lw_p21 : lw_okq (⟨"SpanningProbes$Links", "linkFrom", "(II)I"⟩, 9) := ⟨⟨by decide +kernel, by decide +kernel⟩, List.mem_of_getElem? (i := 144) (by decide +kernel), List.mem_of_getElem? (i := 507) (by decide +kernel), List.mem_of_getElem? (i := 508) (by decide +kernel)⟩
theorem lw_p22 : lw_okq (⟨"SpanningProbesModel", "block", "(I)Z"⟩, 38) := ⟨⟨by decide +kernel, by decide +kernel⟩, List.mem_of_getElem? (i := 547) (by decide +kernel), List.mem_of_getElem? (i := 672) (by decide +kernel), List.mem_of_getElem? (i := 673) (by decide +kernel)⟩
theorem lw_p23 : lw_okq (⟨"SpanningProbesModel", "search", "()V"⟩, 38) := ⟨⟨by decide +kernel, by decide +kernel⟩, List.mem_of_getElem? (i := 547) (by decide +kernel), List.mem_of_getElem? (i := 680) (by decide +kernel), List.mem_of_getElem? (i := 681) (by decide +kernel)⟩
theorem lw_p24 : lw_okq (⟨"SpanningProbesModel", "look", "(I)I"⟩, 38) := ⟨⟨by decide +kernel, by decide +kernel⟩, List.mem_of_getElem? (i := 547) (by decide +kernel), List.mem_of_getElem? (i := 684) (by decide +kernel), List.mem_of_getElem? (i := 685) (by decide +kernel)⟩
theorem lw_p25 : lw_okq (⟨"SpanningProbesModel", "connected", "()Z"⟩, 38) := ⟨⟨by decide +kernel, by decide +kernel⟩, List.mem_of_getElem? (i := 547) (by decide +kernel), List.mem_of_getElem? (i := 688) (by decide +kernel), List.mem_of_getElem? (i := 689) (by decide +kernel)⟩
theorem lw_p26 : lw_okq (⟨"SpanningProbesModel", "spread", "(I)V"⟩, 38) := ⟨⟨by decide +kernel, by decide +kernel⟩, List.mem_of_getElem? (i := 547) (by decide +kernel), List.mem_of_getElem? (i := 692) (by decide +kernel), List.mem_of_getElem? (i := 693) (by decide +kernel)⟩
theorem lw_p27 : lw_okq (⟨"SpanningProbesModel", "layLinks", "()V"⟩, 38) := ⟨⟨by decide +kernel, by decide +kernel⟩, List.mem_of_getElem? (i := 547) (by decide +kernel), List.mem_of_getElem? (i := 696) (by decide +kernel), List.mem_of_getElem? (i := 697) (by decide +kernel)⟩
theorem lw_p28 : lw_okq (⟨"SpanningProbesModel", "rowsBefore", "(II)I"⟩, 38) := ⟨⟨by decide +kernel, by decide +kernel⟩, List.mem_of_getElem? (i := 547) (by decide +kernel), List.mem_of_getElem? (i := 700) (by decide +kernel), List.mem_of_getElem? (i := 701) (by decide +kernel)⟩
theorem lw_p29 : lw_okq (⟨"SpanningProbesModel", "deepen", "()V"⟩, 38) := ⟨⟨by decide +kernel, by decide +kernel⟩, List.mem_of_getElem? (i := 547) (by decide +kernel), List.mem_of_getElem? (i := 704) (by decide +kernel), List.mem_of_getElem? (i := 705) (by decide +kernel)⟩
theorem lw_p30 : lw_okq (⟨"SpanningProbesModel", "sort", "()V"⟩, 38) := ⟨⟨by decide +kernel, by decide +kernel⟩, List.mem_of_getElem? (i := 547) (by decide +kernel), List.mem_of_getElem? (i := 708) (by decide +kernel), List.mem_of_getElem? (i := 709) (by decide +kernel)⟩
theorem lw_p31 : lw_okq (⟨"SpanningProbesModel", "weight", "(I)I"⟩, 38) := ⟨⟨by decide +kernel, by decide +kernel⟩, List.mem_of_getElem? (i := 547) (by decide +kernel), List.mem_of_getElem? (i := 712) (by decide +kernel), List.mem_of_getElem? (i := 713) (by decide +kernel)⟩
def lw_privs_2 : List (MethodName × Nat) := [(⟨"SpanningProbes", "knowsWay", "(I)Z"⟩, 9), (⟨"SpanningProbes", "endRun", "()V"⟩, 9), (⟨"SpanningProbes$Counters", "runsLeftIn", "(II)I"⟩, 6), (⟨"SpanningProbes$Counters", "hitsOutOf", "(I)I"⟩, 6), (⟨"SpanningProbes$Counters", "passesInto", "(II)I"⟩, 6), (⟨"SpanningProbes$Links", "linkFrom", "(II)I"⟩, 9), (⟨"SpanningProbesModel", "block", "(I)Z"⟩, 38), (⟨"SpanningProbesModel", "search", "()V"⟩, 38), (⟨"SpanningProbesModel", "look", "(I)I"⟩, 38), (⟨"SpanningProbesModel", "connected", "()Z"⟩, 38), (⟨"SpanningProbesModel", "spread", "(I)V"⟩, 38), (⟨"SpanningProbesModel", "layLinks", "()V"⟩, 38), (⟨"SpanningProbesModel", "rowsBefore", "(II)I"⟩, 38), (⟨"SpanningProbesModel", "deepen", "()V"⟩, 38), (⟨"SpanningProbesModel", "sort", "()V"⟩, 38), (⟨"SpanningProbesModel", "weight", "(I)I"⟩, 38)]
theorem lw_r2 : ∀ q ∈ lw_privs_2, lw_okq q := List.forall_mem_cons.mpr ⟨lw_p16, List.forall_mem_cons.mpr ⟨lw_p17, List.forall_mem_cons.mpr ⟨lw_p18, List.forall_mem_cons.mpr ⟨lw_p19, List.forall_mem_cons.mpr ⟨lw_p20, List.forall_mem_cons.mpr ⟨lw_p21, List.forall_mem_cons.mpr ⟨lw_p22, List.forall_mem_cons.mpr ⟨lw_p23, List.forall_mem_cons.mpr ⟨lw_p24, List.forall_mem_cons.mpr ⟨lw_p25, List.forall_mem_cons.mpr ⟨lw_p26, List.forall_mem_cons.mpr ⟨lw_p27, List.forall_mem_cons.mpr ⟨lw_p28, List.forall_mem_cons.mpr ⟨lw_p29, List.forall_mem_cons.mpr ⟨lw_p30, List.forall_mem_cons.mpr ⟨lw_p31, fun _ h => absurd h List.not_mem_nil⟩⟩⟩⟩⟩⟩⟩⟩⟩⟩⟩⟩⟩⟩⟩⟩
theorem lw_p32 : lw_okq (⟨"SpanningProbesModel", "growTrees", "()V"⟩, 38) := ⟨⟨by decide +kernel, by decide +kernel⟩, List.mem_of_getElem? (i := 547) (by decide +kernel), List.mem_of_getElem? (i := 716) (by decide +kernel), List.mem_of_getElem? (i := 717) (by decide +kernel)⟩
theorem lw_p33 : lw_okq (⟨"SpanningProbesModel", "join", "(II)Z"⟩, 38) := ⟨⟨by decide +kernel, by decide +kernel⟩, List.mem_of_getElem? (i := 547) (by decide +kernel), List.mem_of_getElem? (i := 720) (by decide +kernel), List.mem_of_getElem? (i := 721) (by decide +kernel)⟩
theorem lw_p34 : lw_okq (⟨"SpanningProbesModel", "joined", "(II)Z"⟩, 38) := ⟨⟨by decide +kernel, by decide +kernel⟩, List.mem_of_getElem? (i := 547) (by decide +kernel), List.mem_of_getElem? (i := 724) (by decide +kernel), List.mem_of_getElem? (i := 725) (by decide +kernel)⟩
theorem lw_p35 : lw_okq (⟨"SpanningProbesModel", "findBases", "()V"⟩, 38) := ⟨⟨by decide +kernel, by decide +kernel⟩, List.mem_of_getElem? (i := 547) (by decide +kernel), List.mem_of_getElem? (i := 728) (by decide +kernel), List.mem_of_getElem? (i := 729) (by decide +kernel)⟩
theorem lw_p36 : lw_okq (⟨"SpanningProbesModel", "value", "(I)I"⟩, 38) := ⟨⟨by decide +kernel, by decide +kernel⟩, List.mem_of_getElem? (i := 547) (by decide +kernel), List.mem_of_getElem? (i := 732) (by decide +kernel), List.mem_of_getElem? (i := 733) (by decide +kernel)⟩
theorem lw_p37 : lw_okq (⟨"SpanningProbesModel", "listWays", "()V"⟩, 38) := ⟨⟨by decide +kernel, by decide +kernel⟩, List.mem_of_getElem? (i := 547) (by decide +kernel), List.mem_of_getElem? (i := 736) (by decide +kernel), List.mem_of_getElem? (i := 737) (by decide +kernel)⟩
theorem lw_p38 : lw_okq (⟨"SpanningProbesModel", "complete", "()V"⟩, 38) := ⟨⟨by decide +kernel, by decide +kernel⟩, List.mem_of_getElem? (i := 547) (by decide +kernel), List.mem_of_getElem? (i := 740) (by decide +kernel), List.mem_of_getElem? (i := 741) (by decide +kernel)⟩
theorem lw_p39 : lw_okq (⟨"SpanningProbesModel", "linkAfter", "(II)I"⟩, 38) := ⟨⟨by decide +kernel, by decide +kernel⟩, List.mem_of_getElem? (i := 547) (by decide +kernel), List.mem_of_getElem? (i := 744) (by decide +kernel), List.mem_of_getElem? (i := 745) (by decide +kernel)⟩
theorem lw_p40 : lw_okq (⟨"SpanningProbesModel", "advance", "()Z"⟩, 38) := ⟨⟨by decide +kernel, by decide +kernel⟩, List.mem_of_getElem? (i := 547) (by decide +kernel), List.mem_of_getElem? (i := 748) (by decide +kernel), List.mem_of_getElem? (i := 749) (by decide +kernel)⟩
theorem lw_p41 : lw_okq (⟨"SpanningProbesModel", "known", "(I)Z"⟩, 38) := ⟨⟨by decide +kernel, by decide +kernel⟩, List.mem_of_getElem? (i := 547) (by decide +kernel), List.mem_of_getElem? (i := 756) (by decide +kernel), List.mem_of_getElem? (i := 757) (by decide +kernel)⟩
theorem lw_p42 : lw_okq (⟨"SpanningProbesModel", "added", "(I)I"⟩, 38) := ⟨⟨by decide +kernel, by decide +kernel⟩, List.mem_of_getElem? (i := 547) (by decide +kernel), List.mem_of_getElem? (i := 772) (by decide +kernel), List.mem_of_getElem? (i := 773) (by decide +kernel)⟩
theorem lw_p43 : lw_okq (⟨"SpanningProbesModel", "pass", "(I)V"⟩, 38) := ⟨⟨by decide +kernel, by decide +kernel⟩, List.mem_of_getElem? (i := 547) (by decide +kernel), List.mem_of_getElem? (i := 789) (by decide +kernel), List.mem_of_getElem? (i := 790) (by decide +kernel)⟩
theorem lw_p44 : lw_okq (⟨"SpanningProbesModel", "note", "(I)V"⟩, 38) := ⟨⟨by decide +kernel, by decide +kernel⟩, List.mem_of_getElem? (i := 547) (by decide +kernel), List.mem_of_getElem? (i := 793) (by decide +kernel), List.mem_of_getElem? (i := 794) (by decide +kernel)⟩
theorem lw_p45 : lw_okq (⟨"SpanningProbesModel", "countWay", "()V"⟩, 38) := ⟨⟨by decide +kernel, by decide +kernel⟩, List.mem_of_getElem? (i := 547) (by decide +kernel), List.mem_of_getElem? (i := 797) (by decide +kernel), List.mem_of_getElem? (i := 798) (by decide +kernel)⟩
theorem lw_p46 : lw_okq (⟨"SpanningProbesModel", "pick", "(I)I"⟩, 38) := ⟨⟨by decide +kernel, by decide +kernel⟩, List.mem_of_getElem? (i := 547) (by decide +kernel), List.mem_of_getElem? (i := 805) (by decide +kernel), List.mem_of_getElem? (i := 806) (by decide +kernel)⟩
def lw_privs_3 : List (MethodName × Nat) := [(⟨"SpanningProbesModel", "growTrees", "()V"⟩, 38), (⟨"SpanningProbesModel", "join", "(II)Z"⟩, 38), (⟨"SpanningProbesModel", "joined", "(II)Z"⟩, 38), (⟨"SpanningProbesModel", "findBases", "()V"⟩, 38), (⟨"SpanningProbesModel", "value", "(I)I"⟩, 38), (⟨"SpanningProbesModel", "listWays", "()V"⟩, 38), (⟨"SpanningProbesModel", "complete", "()V"⟩, 38), (⟨"SpanningProbesModel", "linkAfter", "(II)I"⟩, 38), (⟨"SpanningProbesModel", "advance", "()Z"⟩, 38), (⟨"SpanningProbesModel", "known", "(I)Z"⟩, 38), (⟨"SpanningProbesModel", "added", "(I)I"⟩, 38), (⟨"SpanningProbesModel", "pass", "(I)V"⟩, 38), (⟨"SpanningProbesModel", "note", "(I)V"⟩, 38), (⟨"SpanningProbesModel", "countWay", "()V"⟩, 38), (⟨"SpanningProbesModel", "pick", "(I)I"⟩, 38)]
theorem lw_r3 : ∀ q ∈ lw_privs_3, lw_okq q := List.forall_mem_cons.mpr ⟨lw_p32, List.forall_mem_cons.mpr ⟨lw_p33, List.forall_mem_cons.mpr ⟨lw_p34, List.forall_mem_cons.mpr ⟨lw_p35, List.forall_mem_cons.mpr ⟨lw_p36, List.forall_mem_cons.mpr ⟨lw_p37, List.forall_mem_cons.mpr ⟨lw_p38, List.forall_mem_cons.mpr ⟨lw_p39, List.forall_mem_cons.mpr ⟨lw_p40, List.forall_mem_cons.mpr ⟨lw_p41, List.forall_mem_cons.mpr ⟨lw_p42, List.forall_mem_cons.mpr ⟨lw_p43, List.forall_mem_cons.mpr ⟨lw_p44, List.forall_mem_cons.mpr ⟨lw_p45, List.forall_mem_cons.mpr ⟨lw_p46, fun _ h => absurd h List.not_mem_nil⟩⟩⟩⟩⟩⟩⟩⟩⟩⟩⟩⟩⟩⟩⟩
def lw_privs : List (MethodName × Nat) := lw_privs_1 ++ (lw_privs_2 ++ (lw_privs_3))
def lw_tbl : List Cond := k2_sels lw_privs ++ tables_1
theorem lw_privs_ok : ∀ q ∈ lw_privs, lw_okq q := by
  show ∀ q ∈ lw_privs_1 ++ (lw_privs_2 ++ (lw_privs_3)), lw_okq q
  exact List.forall_mem_append.mpr ⟨lw_r1, List.forall_mem_append.mpr ⟨lw_r2, lw_r3⟩⟩
end
section
/-! the words of the tables, each by its place -/
def zWW : List Cond := lw_tbl.filter goodWord
theorem zw_tab {w : Cond} (h : w ∈ tables_1) (g : goodWord w = true) : w ∈ zWW := List.mem_filter.mpr ⟨List.mem_append_right _ h, g⟩
theorem zw_prv {q : MethodName × Nat} (h : q ∈ lw_privs) (g : goodWord (Cond.selects q.1.cls q.1 q.1) = true) : Cond.selects q.1.cls q.1 q.1 ∈ zWW := List.mem_filter.mpr ⟨List.mem_append_left _ (List.mem_map.mpr ⟨q, h, rfl⟩), g⟩
theorem zw_1 {w : Cond} (h : w ∈ tables_1_1) : w ∈ tables_1 := List.mem_append_left _ h
theorem zw_2 {w : Cond} (h : w ∈ tables_1_2) : w ∈ tables_1 := List.mem_append_right _ (List.mem_append_left _ h)
theorem zw_3 {w : Cond} (h : w ∈ tables_1_3) : w ∈ tables_1 := List.mem_append_right _ (List.mem_append_right _ (List.mem_append_left _ h))
theorem zw_4 {w : Cond} (h : w ∈ tables_1_4) : w ∈ tables_1 := List.mem_append_right _ (List.mem_append_right _ (List.mem_append_right _ h))
theorem zw_good {w : Cond} (h : w ∈ zWW) : (w.onTables && w.keeps) = true ∨ ∃ ty, w = .arrayClass ty := good_of_word (List.mem_filter.mp h).2
theorem mw_0 : Cond.initialized "SpanningProbesLaw" ∈ zWW := zw_tab (zw_1 (List.mem_of_getElem? (i := 0) rfl)) rfl
theorem mw_1 : Cond.initialized "SpanningProbes" ∈ zWW := zw_tab (zw_1 (List.mem_of_getElem? (i := 1) rfl)) rfl
theorem mw_2 : Cond.initialized "SpanningProbes$Graph" ∈ zWW := zw_tab (zw_1 (List.mem_of_getElem? (i := 2) rfl)) rfl
theorem mw_3 : Cond.initialized "java/lang/Math" ∈ zWW := zw_tab (zw_1 (List.mem_of_getElem? (i := 3) rfl)) rfl
theorem mw_4 : Cond.initialized "SpanningProbes$Search" ∈ zWW := zw_tab (zw_1 (List.mem_of_getElem? (i := 4) rfl)) rfl
theorem mw_5 : Cond.initialized "SpanningProbes$Loops" ∈ zWW := zw_tab (zw_1 (List.mem_of_getElem? (i := 5) rfl)) rfl
theorem mw_6 : Cond.initialized "SpanningProbes$Tree" ∈ zWW := zw_tab (zw_1 (List.mem_of_getElem? (i := 6) rfl)) rfl
theorem mw_7 : Cond.initialized "SpanningProbes$Links" ∈ zWW := zw_tab (zw_1 (List.mem_of_getElem? (i := 7) rfl)) rfl
theorem mw_8 : Cond.initialized "SpanningProbes$Counters" ∈ zWW := zw_tab (zw_1 (List.mem_of_getElem? (i := 8) rfl)) rfl
theorem mw_9 : Cond.initialized "SpanningProbesModel" ∈ zWW := zw_tab (zw_1 (List.mem_of_getElem? (i := 9) rfl)) rfl
theorem mw_10 : Cond.initialized "java/util/Arrays" ∈ zWW := zw_tab (zw_1 (List.mem_of_getElem? (i := 10) rfl)) rfl
theorem mw_11 : Cond.classLink "SpanningProbesLaw" 7 "SpanningProbes" ∈ zWW := zw_tab (zw_1 (List.mem_of_getElem? (i := 11) rfl)) rfl
theorem mw_12 : Cond.instantiable "SpanningProbes" 9 ∈ zWW := zw_tab (zw_1 (List.mem_of_getElem? (i := 12) rfl)) rfl
theorem mw_13 : Cond.methodLink "SpanningProbesLaw" 15 ({ cls := "SpanningProbes", name := "<init>", desc := "(I)V" } : MethodName) ∈ zWW := zw_tab (zw_1 (List.mem_of_getElem? (i := 13) rfl)) rfl
theorem mw_14 : Cond.instanceMethod ({ cls := "SpanningProbes", name := "<init>", desc := "(I)V" } : MethodName) ∈ zWW := zw_tab (zw_1 (List.mem_of_getElem? (i := 14) rfl)) rfl
theorem mw_15 : Cond.code ({ cls := "SpanningProbes", name := "<init>", desc := "(I)V" } : MethodName) prog_1_method_1_code 2 (Option.none : Option Jvm.ClassFile.FieldType) ∈ zWW := zw_tab (zw_1 (List.mem_of_getElem? (i := 15) rfl)) rfl
theorem mw_16 : Cond.methodLink "SpanningProbes" 3 ({ cls := "java/lang/Object", name := "<init>", desc := "()V" } : MethodName) ∈ zWW := zw_tab (zw_1 (List.mem_of_getElem? (i := 16) rfl)) rfl
theorem mw_17 : Cond.instanceMethod ({ cls := "java/lang/Object", name := "<init>", desc := "()V" } : MethodName) ∈ zWW := zw_tab (zw_1 (List.mem_of_getElem? (i := 17) rfl)) rfl
theorem mw_18 : Cond.code ({ cls := "java/lang/Object", name := "<init>", desc := "()V" } : MethodName) object_method_1_code 1 (Option.none : Option Jvm.ClassFile.FieldType) ∈ zWW := zw_tab (zw_1 (List.mem_of_getElem? (i := 18) rfl)) rfl
theorem mw_19 : Cond.classLink "SpanningProbes" 9 "SpanningProbes$Graph" ∈ zWW := zw_tab (zw_1 (List.mem_of_getElem? (i := 19) rfl)) rfl
theorem mw_20 : Cond.instantiable "SpanningProbes$Graph" 4 ∈ zWW := zw_tab (zw_1 (List.mem_of_getElem? (i := 20) rfl)) rfl
theorem mw_21 : Cond.methodLink "SpanningProbes" 13 ({ cls := "java/lang/Math", name := "min", desc := "(II)I" } : MethodName) ∈ zWW := zw_tab (zw_1 (List.mem_of_getElem? (i := 21) rfl)) rfl
theorem mw_22 : Cond.static ({ cls := "java/lang/Math", name := "min", desc := "(II)I" } : MethodName) ∈ zWW := zw_tab (zw_1 (List.mem_of_getElem? (i := 22) rfl)) rfl
theorem mw_23 : Cond.code ({ cls := "java/lang/Math", name := "min", desc := "(II)I" } : MethodName) prog_10_method_69_code 2 (Option.some FieldType.int) ∈ zWW := zw_tab (zw_1 (List.mem_of_getElem? (i := 23) rfl)) rfl
theorem mw_24 : Cond.methodLink "SpanningProbes" 19 ({ cls := "java/lang/Math", name := "max", desc := "(II)I" } : MethodName) ∈ zWW := zw_tab (zw_1 (List.mem_of_getElem? (i := 24) rfl)) rfl
theorem mw_25 : Cond.static ({ cls := "java/lang/Math", name := "max", desc := "(II)I" } : MethodName) ∈ zWW := zw_tab (zw_1 (List.mem_of_getElem? (i := 25) rfl)) rfl
theorem mw_26 : Cond.code ({ cls := "java/lang/Math", name := "max", desc := "(II)I" } : MethodName) prog_10_method_65_code 2 (Option.some FieldType.int) ∈ zWW := zw_tab (zw_1 (List.mem_of_getElem? (i := 26) rfl)) rfl
theorem mw_27 : Cond.methodLink "SpanningProbes" 22 ({ cls := "SpanningProbes$Graph", name := "<init>", desc := "(I)V" } : MethodName) ∈ zWW := zw_tab (zw_1 (List.mem_of_getElem? (i := 27) rfl)) rfl
theorem mw_28 : Cond.instanceMethod ({ cls := "SpanningProbes$Graph", name := "<init>", desc := "(I)V" } : MethodName) ∈ zWW := zw_tab (zw_1 (List.mem_of_getElem? (i := 28) rfl)) rfl
theorem mw_29 : Cond.code ({ cls := "SpanningProbes$Graph", name := "<init>", desc := "(I)V" } : MethodName) prog_3_method_1_code 2 (Option.none : Option Jvm.ClassFile.FieldType) ∈ zWW := zw_tab (zw_1 (List.mem_of_getElem? (i := 29) rfl)) rfl
theorem mw_30 : Cond.methodLink "SpanningProbes$Graph" 3 ({ cls := "java/lang/Object", name := "<init>", desc := "()V" } : MethodName) ∈ zWW := zw_tab (zw_1 (List.mem_of_getElem? (i := 30) rfl)) rfl
theorem mw_31 : Cond.fieldLink "SpanningProbes$Graph" 9 "SpanningProbes$Graph" "blocks" "I" ∈ zWW := zw_tab (zw_1 (List.mem_of_getElem? (i := 31) rfl)) rfl
theorem mw_32 : Cond.fieldLink "SpanningProbes$Tree" 23 "SpanningProbes$Graph" "blocks" "I" ∈ zWW := zw_tab (zw_1 (List.mem_of_getElem? (i := 32) rfl)) rfl
theorem mw_33 : Cond.fieldLink "SpanningProbes$Search" 52 "SpanningProbes$Graph" "blocks" "I" ∈ zWW := zw_tab (zw_1 (List.mem_of_getElem? (i := 33) rfl)) rfl
theorem mw_34 : Cond.fieldLink "SpanningProbes$Loops" 62 "SpanningProbes$Graph" "blocks" "I" ∈ zWW := zw_tab (zw_1 (List.mem_of_getElem? (i := 34) rfl)) rfl
theorem mw_35 : Cond.fieldLink "SpanningProbes$Links" 66 "SpanningProbes$Graph" "blocks" "I" ∈ zWW := zw_tab (zw_1 (List.mem_of_getElem? (i := 35) rfl)) rfl
theorem mw_36 : Cond.fieldLink "SpanningProbes$Counters" 68 "SpanningProbes$Graph" "blocks" "I" ∈ zWW := zw_tab (zw_1 (List.mem_of_getElem? (i := 36) rfl)) rfl
theorem mw_37 : Cond.fieldLink "SpanningProbes$Graph" 15 "SpanningProbes$Graph" "from" "[I" ∈ zWW := zw_tab (zw_1 (List.mem_of_getElem? (i := 37) rfl)) rfl
theorem mw_38 : Cond.fieldLink "SpanningProbes$Tree" 33 "SpanningProbes$Graph" "from" "[I" ∈ zWW := zw_tab (zw_1 (List.mem_of_getElem? (i := 38) rfl)) rfl
theorem mw_39 : Cond.fieldLink "SpanningProbes$Links" 59 "SpanningProbes$Graph" "from" "[I" ∈ zWW := zw_tab (zw_1 (List.mem_of_getElem? (i := 39) rfl)) rfl
theorem mw_40 : Cond.fieldLink "SpanningProbes$Loops" 55 "SpanningProbes$Graph" "from" "[I" ∈ zWW := zw_tab (zw_1 (List.mem_of_getElem? (i := 40) rfl)) rfl
theorem mw_41 : Cond.fieldLink "SpanningProbes$Counters" 71 "SpanningProbes$Graph" "from" "[I" ∈ zWW := zw_tab (zw_1 (List.mem_of_getElem? (i := 41) rfl)) rfl
theorem mw_42 : Cond.fieldLink "SpanningProbes" 155 "SpanningProbes$Graph" "from" "[I" ∈ zWW := zw_tab (zw_1 (List.mem_of_getElem? (i := 42) rfl)) rfl
theorem mw_43 : Cond.fieldLink "SpanningProbes$Graph" 19 "SpanningProbes$Graph" "to" "[I" ∈ zWW := zw_tab (zw_1 (List.mem_of_getElem? (i := 43) rfl)) rfl
theorem mw_44 : Cond.fieldLink "SpanningProbes$Links" 54 "SpanningProbes$Graph" "to" "[I" ∈ zWW := zw_tab (zw_1 (List.mem_of_getElem? (i := 44) rfl)) rfl
theorem mw_45 : Cond.fieldLink "SpanningProbes$Tree" 36 "SpanningProbes$Graph" "to" "[I" ∈ zWW := zw_tab (zw_1 (List.mem_of_getElem? (i := 45) rfl)) rfl
theorem mw_46 : Cond.fieldLink "SpanningProbes$Loops" 49 "SpanningProbes$Graph" "to" "[I" ∈ zWW := zw_tab (zw_1 (List.mem_of_getElem? (i := 46) rfl)) rfl
theorem mw_47 : Cond.fieldLink "SpanningProbes$Search" 66 "SpanningProbes$Graph" "to" "[I" ∈ zWW := zw_tab (zw_1 (List.mem_of_getElem? (i := 47) rfl)) rfl
theorem mw_48 : Cond.fieldLink "SpanningProbes$Counters" 61 "SpanningProbes$Graph" "to" "[I" ∈ zWW := zw_tab (zw_1 (List.mem_of_getElem? (i := 48) rfl)) rfl
theorem mw_49 : Cond.fieldLink "SpanningProbes" 161 "SpanningProbes$Graph" "to" "[I" ∈ zWW := zw_tab (zw_1 (List.mem_of_getElem? (i := 49) rfl)) rfl
theorem mw_50 : Cond.fieldLink "SpanningProbes$Graph" 22 "SpanningProbes$Graph" "edges" "I" ∈ zWW := zw_tab (zw_1 (List.mem_of_getElem? (i := 50) rfl)) rfl
theorem mw_51 : Cond.fieldLink "SpanningProbes$Loops" 26 "SpanningProbes$Graph" "edges" "I" ∈ zWW := zw_tab (zw_1 (List.mem_of_getElem? (i := 51) rfl)) rfl
theorem mw_52 : Cond.fieldLink "SpanningProbes" 85 "SpanningProbes$Graph" "edges" "I" ∈ zWW := zw_tab (zw_1 (List.mem_of_getElem? (i := 52) rfl)) rfl
theorem mw_53 : Cond.fieldLink "SpanningProbes$Counters" 38 "SpanningProbes$Graph" "edges" "I" ∈ zWW := zw_tab (zw_1 (List.mem_of_getElem? (i := 53) rfl)) rfl
theorem mw_54 : Cond.fieldLink "SpanningProbes$Search" 49 "SpanningProbes$Graph" "edges" "I" ∈ zWW := zw_tab (zw_1 (List.mem_of_getElem? (i := 54) rfl)) rfl
theorem mw_55 : Cond.fieldLink "SpanningProbes$Tree" 43 "SpanningProbes$Graph" "edges" "I" ∈ zWW := zw_tab (zw_1 (List.mem_of_getElem? (i := 55) rfl)) rfl
theorem mw_56 : Cond.fieldLink "SpanningProbes$Links" 78 "SpanningProbes$Graph" "edges" "I" ∈ zWW := zw_tab (zw_1 (List.mem_of_getElem? (i := 56) rfl)) rfl
theorem mw_57 : Cond.laysFinal "SpanningProbes$Graph" "SpanningProbes$Graph" "blocks" "I" ∈ zWW := zw_tab (zw_1 (List.mem_of_getElem? (i := 57) rfl)) rfl
theorem mw_59 : Cond.laysFinal "SpanningProbes$Graph" "SpanningProbes$Graph" "from" "[I" ∈ zWW := zw_tab (zw_1 (List.mem_of_getElem? (i := 59) rfl)) rfl
theorem mw_61 : Cond.laysFinal "SpanningProbes$Graph" "SpanningProbes$Graph" "to" "[I" ∈ zWW := zw_tab (zw_1 (List.mem_of_getElem? (i := 61) rfl)) rfl
theorem mw_63 : Cond.lays "SpanningProbes$Graph" "SpanningProbes$Graph" "edges" "I" ∈ zWW := zw_tab (zw_1 (List.mem_of_getElem? (i := 63) rfl)) rfl
theorem mw_66 : Cond.arrayClass FieldType.int ∈ zWW := zw_tab (zw_1 (List.mem_of_getElem? (i := 66) rfl)) rfl
theorem mw_67 : Cond.classLink "SpanningProbes" 29 "SpanningProbes$Search" ∈ zWW := zw_tab (zw_1 (List.mem_of_getElem? (i := 67) rfl)) rfl
theorem mw_68 : Cond.instantiable "SpanningProbes$Search" 8 ∈ zWW := zw_tab (zw_1 (List.mem_of_getElem? (i := 68) rfl)) rfl
theorem mw_69 : Cond.methodLink "SpanningProbes" 31 ({ cls := "SpanningProbes$Search", name := "<init>", desc := "(LSpanningProbes$Graph;)V" } : MethodName) ∈ zWW := zw_tab (zw_1 (List.mem_of_getElem? (i := 69) rfl)) rfl
theorem mw_70 : Cond.instanceMethod ({ cls := "SpanningProbes$Search", name := "<init>", desc := "(LSpanningProbes$Graph;)V" } : MethodName) ∈ zWW := zw_tab (zw_1 (List.mem_of_getElem? (i := 70) rfl)) rfl
theorem mw_71 : Cond.code ({ cls := "SpanningProbes$Search", name := "<init>", desc := "(LSpanningProbes$Graph;)V" } : MethodName) prog_6_method_1_code 2 (Option.none : Option Jvm.ClassFile.FieldType) ∈ zWW := zw_tab (zw_1 (List.mem_of_getElem? (i := 71) rfl)) rfl
theorem mw_72 : Cond.methodLink "SpanningProbes$Search" 3 ({ cls := "java/lang/Object", name := "<init>", desc := "()V" } : MethodName) ∈ zWW := zw_tab (zw_1 (List.mem_of_getElem? (i := 72) rfl)) rfl
theorem mw_73 : Cond.fieldLink "SpanningProbes$Search" 9 "SpanningProbes$Search" "graph" "LSpanningProbes$Graph;" ∈ zWW := zw_tab (zw_1 (List.mem_of_getElem? (i := 73) rfl)) rfl
theorem mw_74 : Cond.fieldLink "SpanningProbes$Search" 15 "SpanningProbes$Search" "isBack" "[Z" ∈ zWW := zw_tab (zw_1 (List.mem_of_getElem? (i := 74) rfl)) rfl
theorem mw_75 : Cond.fieldLink "SpanningProbes$Links" 48 "SpanningProbes$Search" "isBack" "[Z" ∈ zWW := zw_tab (zw_1 (List.mem_of_getElem? (i := 75) rfl)) rfl
theorem mw_76 : Cond.fieldLink "SpanningProbes$Loops" 32 "SpanningProbes$Search" "isBack" "[Z" ∈ zWW := zw_tab (zw_1 (List.mem_of_getElem? (i := 76) rfl)) rfl
theorem mw_77 : Cond.fieldLink "SpanningProbes" 128 "SpanningProbes$Search" "isBack" "[Z" ∈ zWW := zw_tab (zw_1 (List.mem_of_getElem? (i := 77) rfl)) rfl
theorem mw_78 : Cond.fieldLink "SpanningProbes$Search" 19 "SpanningProbes$Search" "finished" "[I" ∈ zWW := zw_tab (zw_1 (List.mem_of_getElem? (i := 78) rfl)) rfl
theorem mw_79 : Cond.fieldLink "SpanningProbes$Links" 69 "SpanningProbes$Search" "finished" "[I" ∈ zWW := zw_tab (zw_1 (List.mem_of_getElem? (i := 79) rfl)) rfl
theorem mw_80 : Cond.fieldLink "SpanningProbes$Search" 23 "SpanningProbes$Search" "stack" "[I" ∈ zWW := zw_tab (zw_1 (List.mem_of_getElem? (i := 80) rfl)) rfl
theorem mw_81 : Cond.fieldLink "SpanningProbes$Search" 26 "SpanningProbes$Search" "lookedUpTo" "[I" ∈ zWW := zw_tab (zw_1 (List.mem_of_getElem? (i := 81) rfl)) rfl
theorem mw_82 : Cond.fieldLink "SpanningProbes$Search" 29 "SpanningProbes$Search" "met" "I" ∈ zWW := zw_tab (zw_1 (List.mem_of_getElem? (i := 82) rfl)) rfl
theorem mw_83 : Cond.fieldLink "SpanningProbes$Search" 33 "SpanningProbes$Search" "open" "I" ∈ zWW := zw_tab (zw_1 (List.mem_of_getElem? (i := 83) rfl)) rfl
theorem mw_84 : Cond.fieldLink "SpanningProbes$Search" 36 "SpanningProbes$Search" "height" "I" ∈ zWW := zw_tab (zw_1 (List.mem_of_getElem? (i := 84) rfl)) rfl
theorem mw_85 : Cond.laysFinal "SpanningProbes$Search" "SpanningProbes$Search" "graph" "LSpanningProbes$Graph;" ∈ zWW := zw_tab (zw_1 (List.mem_of_getElem? (i := 85) rfl)) rfl
theorem mw_87 : Cond.laysFinal "SpanningProbes$Search" "SpanningProbes$Search" "isBack" "[Z" ∈ zWW := zw_tab (zw_1 (List.mem_of_getElem? (i := 87) rfl)) rfl
theorem mw_89 : Cond.laysFinal "SpanningProbes$Search" "SpanningProbes$Search" "finished" "[I" ∈ zWW := zw_tab (zw_1 (List.mem_of_getElem? (i := 89) rfl)) rfl
theorem mw_91 : Cond.laysFinal "SpanningProbes$Search" "SpanningProbes$Search" "stack" "[I" ∈ zWW := zw_tab (zw_1 (List.mem_of_getElem? (i := 91) rfl)) rfl
theorem mw_93 : Cond.laysFinal "SpanningProbes$Search" "SpanningProbes$Search" "lookedUpTo" "[I" ∈ zWW := zw_tab (zw_1 (List.mem_of_getElem? (i := 93) rfl)) rfl
theorem mw_95 : Cond.lays "SpanningProbes$Search" "SpanningProbes$Search" "met" "I" ∈ zWW := zw_tab (zw_1 (List.mem_of_getElem? (i := 95) rfl)) rfl
theorem mw_97 : Cond.lays "SpanningProbes$Search" "SpanningProbes$Search" "open" "I" ∈ zWW := zw_tab (zw_1 (List.mem_of_getElem? (i := 97) rfl)) rfl
theorem mw_99 : Cond.lays "SpanningProbes$Search" "SpanningProbes$Search" "height" "I" ∈ zWW := zw_tab (zw_1 (List.mem_of_getElem? (i := 99) rfl)) rfl
theorem mw_102 : Cond.arrayClass FieldType.boolean ∈ zWW := zw_tab (zw_1 (List.mem_of_getElem? (i := 102) rfl)) rfl
theorem mw_103 : Cond.classLink "SpanningProbes" 38 "SpanningProbes$Loops" ∈ zWW := zw_tab (zw_1 (List.mem_of_getElem? (i := 103) rfl)) rfl
theorem mw_104 : Cond.instantiable "SpanningProbes$Loops" 4 ∈ zWW := zw_tab (zw_1 (List.mem_of_getElem? (i := 104) rfl)) rfl
theorem mw_105 : Cond.methodLink "SpanningProbes" 40 ({ cls := "SpanningProbes$Loops", name := "<init>", desc := "(LSpanningProbes$Graph;LSpanningProbes$Search;)V" } : MethodName) ∈ zWW := zw_tab (zw_1 (List.mem_of_getElem? (i := 105) rfl)) rfl
theorem mw_106 : Cond.instanceMethod ({ cls := "SpanningProbes$Loops", name := "<init>", desc := "(LSpanningProbes$Graph;LSpanningProbes$Search;)V" } : MethodName) ∈ zWW := zw_tab (zw_1 (List.mem_of_getElem? (i := 106) rfl)) rfl
theorem mw_107 : Cond.code ({ cls := "SpanningProbes$Loops", name := "<init>", desc := "(LSpanningProbes$Graph;LSpanningProbes$Search;)V" } : MethodName) prog_5_method_1_code 3 (Option.none : Option Jvm.ClassFile.FieldType) ∈ zWW := zw_tab (zw_1 (List.mem_of_getElem? (i := 107) rfl)) rfl
theorem mw_108 : Cond.methodLink "SpanningProbes$Loops" 3 ({ cls := "java/lang/Object", name := "<init>", desc := "()V" } : MethodName) ∈ zWW := zw_tab (zw_1 (List.mem_of_getElem? (i := 108) rfl)) rfl
theorem mw_109 : Cond.fieldLink "SpanningProbes$Loops" 9 "SpanningProbes$Loops" "graph" "LSpanningProbes$Graph;" ∈ zWW := zw_tab (zw_1 (List.mem_of_getElem? (i := 109) rfl)) rfl
theorem mw_110 : Cond.fieldLink "SpanningProbes$Loops" 15 "SpanningProbes$Loops" "search" "LSpanningProbes$Search;" ∈ zWW := zw_tab (zw_1 (List.mem_of_getElem? (i := 110) rfl)) rfl
theorem mw_111 : Cond.fieldLink "SpanningProbes$Loops" 19 "SpanningProbes$Loops" "depths" "[I" ∈ zWW := zw_tab (zw_1 (List.mem_of_getElem? (i := 111) rfl)) rfl
theorem mw_112 : Cond.fieldLink "SpanningProbes" 135 "SpanningProbes$Loops" "depths" "[I" ∈ zWW := zw_tab (zw_1 (List.mem_of_getElem? (i := 112) rfl)) rfl
theorem mw_113 : Cond.fieldLink "SpanningProbes$Loops" 23 "SpanningProbes$Loops" "order" "[I" ∈ zWW := zw_tab (zw_1 (List.mem_of_getElem? (i := 113) rfl)) rfl
theorem mw_114 : Cond.fieldLink "SpanningProbes" 110 "SpanningProbes$Loops" "order" "[I" ∈ zWW := zw_tab (zw_1 (List.mem_of_getElem? (i := 114) rfl)) rfl
theorem mw_115 : Cond.laysFinal "SpanningProbes$Loops" "SpanningProbes$Loops" "graph" "LSpanningProbes$Graph;" ∈ zWW := zw_tab (zw_1 (List.mem_of_getElem? (i := 115) rfl)) rfl
theorem mw_117 : Cond.laysFinal "SpanningProbes$Loops" "SpanningProbes$Loops" "search" "LSpanningProbes$Search;" ∈ zWW := zw_tab (zw_1 (List.mem_of_getElem? (i := 117) rfl)) rfl
theorem mw_119 : Cond.laysFinal "SpanningProbes$Loops" "SpanningProbes$Loops" "depths" "[I" ∈ zWW := zw_tab (zw_1 (List.mem_of_getElem? (i := 119) rfl)) rfl
theorem mw_121 : Cond.laysFinal "SpanningProbes$Loops" "SpanningProbes$Loops" "order" "[I" ∈ zWW := zw_tab (zw_1 (List.mem_of_getElem? (i := 121) rfl)) rfl
theorem mw_124 : Cond.classLink "SpanningProbes" 47 "SpanningProbes$Tree" ∈ zWW := zw_tab (zw_1 (List.mem_of_getElem? (i := 124) rfl)) rfl
theorem mw_125 : Cond.instantiable "SpanningProbes$Tree" 3 ∈ zWW := zw_tab (zw_1 (List.mem_of_getElem? (i := 125) rfl)) rfl
theorem mw_126 : Cond.methodLink "SpanningProbes" 49 ({ cls := "SpanningProbes$Tree", name := "<init>", desc := "(LSpanningProbes$Graph;)V" } : MethodName) ∈ zWW := zw_tab (zw_1 (List.mem_of_getElem? (i := 126) rfl)) rfl
theorem mw_127 : Cond.instanceMethod ({ cls := "SpanningProbes$Tree", name := "<init>", desc := "(LSpanningProbes$Graph;)V" } : MethodName) ∈ zWW := zw_tab (zw_1 (List.mem_of_getElem? (i := 127) rfl)) rfl
theorem mw_128 : Cond.code ({ cls := "SpanningProbes$Tree", name := "<init>", desc := "(LSpanningProbes$Graph;)V" } : MethodName) prog_7_method_1_code 2 (Option.none : Option Jvm.ClassFile.FieldType) ∈ zWW := zw_tab (zw_1 (List.mem_of_getElem? (i := 128) rfl)) rfl
theorem mw_129 : Cond.methodLink "SpanningProbes$Tree" 3 ({ cls := "java/lang/Object", name := "<init>", desc := "()V" } : MethodName) ∈ zWW := zw_tab (zw_1 (List.mem_of_getElem? (i := 129) rfl)) rfl
theorem mw_130 : Cond.fieldLink "SpanningProbes$Tree" 9 "SpanningProbes$Tree" "graph" "LSpanningProbes$Graph;" ∈ zWW := zw_tab (zw_1 (List.mem_of_getElem? (i := 130) rfl)) rfl
theorem mw_131 : Cond.fieldLink "SpanningProbes$Tree" 15 "SpanningProbes$Tree" "has" "[Z" ∈ zWW := zw_tab (zw_1 (List.mem_of_getElem? (i := 131) rfl)) rfl
theorem mw_132 : Cond.fieldLink "SpanningProbes$Counters" 44 "SpanningProbes$Tree" "has" "[Z" ∈ zWW := zw_tab (zw_1 (List.mem_of_getElem? (i := 132) rfl)) rfl
theorem mw_133 : Cond.fieldLink "SpanningProbes" 138 "SpanningProbes$Tree" "has" "[Z" ∈ zWW := zw_tab (zw_1 (List.mem_of_getElem? (i := 133) rfl)) rfl
theorem mw_134 : Cond.fieldLink "SpanningProbes$Links" 92 "SpanningProbes$Tree" "has" "[Z" ∈ zWW := zw_tab (zw_1 (List.mem_of_getElem? (i := 134) rfl)) rfl
theorem mw_135 : Cond.fieldLink "SpanningProbes$Tree" 19 "SpanningProbes$Tree" "group" "[I" ∈ zWW := zw_tab (zw_1 (List.mem_of_getElem? (i := 135) rfl)) rfl
theorem mw_136 : Cond.laysFinal "SpanningProbes$Tree" "SpanningProbes$Tree" "graph" "LSpanningProbes$Graph;" ∈ zWW := zw_tab (zw_1 (List.mem_of_getElem? (i := 136) rfl)) rfl
theorem mw_138 : Cond.laysFinal "SpanningProbes$Tree" "SpanningProbes$Tree" "has" "[Z" ∈ zWW := zw_tab (zw_1 (List.mem_of_getElem? (i := 138) rfl)) rfl
theorem mw_140 : Cond.laysFinal "SpanningProbes$Tree" "SpanningProbes$Tree" "group" "[I" ∈ zWW := zw_tab (zw_1 (List.mem_of_getElem? (i := 140) rfl)) rfl
theorem mw_143 : Cond.classLink "SpanningProbes" 54 "SpanningProbes$Links" ∈ zWW := zw_tab (zw_1 (List.mem_of_getElem? (i := 143) rfl)) rfl
theorem mw_144 : Cond.instantiable "SpanningProbes$Links" 9 ∈ zWW := zw_tab (zw_1 (List.mem_of_getElem? (i := 144) rfl)) rfl
theorem mw_145 : Cond.methodLink "SpanningProbes" 56 ({ cls := "SpanningProbes$Links", name := "<init>", desc := "(LSpanningProbes$Graph;LSpanningProbes$Search;)V" } : MethodName) ∈ zWW := zw_tab (zw_1 (List.mem_of_getElem? (i := 145) rfl)) rfl
theorem mw_146 : Cond.instanceMethod ({ cls := "SpanningProbes$Links", name := "<init>", desc := "(LSpanningProbes$Graph;LSpanningProbes$Search;)V" } : MethodName) ∈ zWW := zw_tab (zw_1 (List.mem_of_getElem? (i := 146) rfl)) rfl
theorem mw_147 : Cond.code ({ cls := "SpanningProbes$Links", name := "<init>", desc := "(LSpanningProbes$Graph;LSpanningProbes$Search;)V" } : MethodName) prog_4_method_1_code 3 (Option.none : Option Jvm.ClassFile.FieldType) ∈ zWW := zw_tab (zw_1 (List.mem_of_getElem? (i := 147) rfl)) rfl
theorem mw_148 : Cond.methodLink "SpanningProbes$Links" 3 ({ cls := "java/lang/Object", name := "<init>", desc := "()V" } : MethodName) ∈ zWW := zw_tab (zw_1 (List.mem_of_getElem? (i := 148) rfl)) rfl
theorem mw_149 : Cond.classLink "SpanningProbes$Links" 19 "SpanningProbes$Tree" ∈ zWW := zw_tab (zw_1 (List.mem_of_getElem? (i := 149) rfl)) rfl
theorem mw_150 : Cond.methodLink "SpanningProbes$Links" 21 ({ cls := "SpanningProbes$Tree", name := "<init>", desc := "(LSpanningProbes$Graph;)V" } : MethodName) ∈ zWW := zw_tab (zw_1 (List.mem_of_getElem? (i := 150) rfl)) rfl
theorem mw_151 : Cond.fieldLink "SpanningProbes$Links" 9 "SpanningProbes$Links" "graph" "LSpanningProbes$Graph;" ∈ zWW := zw_tab (zw_1 (List.mem_of_getElem? (i := 151) rfl)) rfl
theorem mw_152 : Cond.fieldLink "SpanningProbes$Links" 15 "SpanningProbes$Links" "search" "LSpanningProbes$Search;" ∈ zWW := zw_tab (zw_1 (List.mem_of_getElem? (i := 152) rfl)) rfl
theorem mw_153 : Cond.fieldLink "SpanningProbes$Links" 24 "SpanningProbes$Links" "tree" "LSpanningProbes$Tree;" ∈ zWW := zw_tab (zw_1 (List.mem_of_getElem? (i := 153) rfl)) rfl
theorem mw_154 : Cond.fieldLink "SpanningProbes$Links" 28 "SpanningProbes$Links" "rows" "[I" ∈ zWW := zw_tab (zw_1 (List.mem_of_getElem? (i := 154) rfl)) rfl
theorem mw_155 : Cond.fieldLink "SpanningProbes$Links" 32 "SpanningProbes$Links" "values" "[I" ∈ zWW := zw_tab (zw_1 (List.mem_of_getElem? (i := 155) rfl)) rfl
theorem mw_156 : Cond.fieldLink "SpanningProbes$Links" 35 "SpanningProbes$Links" "startValues" "[I" ∈ zWW := zw_tab (zw_1 (List.mem_of_getElem? (i := 156) rfl)) rfl
theorem mw_157 : Cond.fieldLink "SpanningProbes$Links" 38 "SpanningProbes$Links" "bases" "[I" ∈ zWW := zw_tab (zw_1 (List.mem_of_getElem? (i := 157) rfl)) rfl
theorem mw_158 : Cond.fieldLink "SpanningProbes$Links" 41 "SpanningProbes$Links" "order" "[I" ∈ zWW := zw_tab (zw_1 (List.mem_of_getElem? (i := 158) rfl)) rfl
theorem mw_159 : Cond.fieldLink "SpanningProbes$Links" 44 "SpanningProbes$Links" "ways" "I" ∈ zWW := zw_tab (zw_1 (List.mem_of_getElem? (i := 159) rfl)) rfl
theorem mw_160 : Cond.fieldLink "SpanningProbes" 104 "SpanningProbes$Links" "ways" "I" ∈ zWW := zw_tab (zw_1 (List.mem_of_getElem? (i := 160) rfl)) rfl
theorem mw_161 : Cond.laysFinal "SpanningProbes$Links" "SpanningProbes$Links" "graph" "LSpanningProbes$Graph;" ∈ zWW := zw_tab (zw_1 (List.mem_of_getElem? (i := 161) rfl)) rfl
theorem mw_163 : Cond.laysFinal "SpanningProbes$Links" "SpanningProbes$Links" "search" "LSpanningProbes$Search;" ∈ zWW := zw_tab (zw_1 (List.mem_of_getElem? (i := 163) rfl)) rfl
theorem mw_165 : Cond.laysFinal "SpanningProbes$Links" "SpanningProbes$Links" "tree" "LSpanningProbes$Tree;" ∈ zWW := zw_tab (zw_1 (List.mem_of_getElem? (i := 165) rfl)) rfl
theorem mw_167 : Cond.laysFinal "SpanningProbes$Links" "SpanningProbes$Links" "rows" "[I" ∈ zWW := zw_tab (zw_1 (List.mem_of_getElem? (i := 167) rfl)) rfl
theorem mw_169 : Cond.laysFinal "SpanningProbes$Links" "SpanningProbes$Links" "values" "[I" ∈ zWW := zw_tab (zw_1 (List.mem_of_getElem? (i := 169) rfl)) rfl
theorem mw_171 : Cond.laysFinal "SpanningProbes$Links" "SpanningProbes$Links" "startValues" "[I" ∈ zWW := zw_tab (zw_1 (List.mem_of_getElem? (i := 171) rfl)) rfl
theorem mw_173 : Cond.laysFinal "SpanningProbes$Links" "SpanningProbes$Links" "bases" "[I" ∈ zWW := zw_tab (zw_1 (List.mem_of_getElem? (i := 173) rfl)) rfl
theorem mw_175 : Cond.laysFinal "SpanningProbes$Links" "SpanningProbes$Links" "order" "[I" ∈ zWW := zw_tab (zw_1 (List.mem_of_getElem? (i := 175) rfl)) rfl
theorem mw_177 : Cond.lays "SpanningProbes$Links" "SpanningProbes$Links" "ways" "I" ∈ zWW := zw_tab (zw_1 (List.mem_of_getElem? (i := 177) rfl)) rfl
theorem mw_180 : Cond.classLink "SpanningProbes" 61 "SpanningProbes$Counters" ∈ zWW := zw_tab (zw_1 (List.mem_of_getElem? (i := 180) rfl)) rfl
theorem mw_181 : Cond.instantiable "SpanningProbes$Counters" 6 ∈ zWW := zw_tab (zw_1 (List.mem_of_getElem? (i := 181) rfl)) rfl
theorem mw_182 : Cond.methodLink "SpanningProbes" 63 ({ cls := "SpanningProbes$Counters", name := "<init>", desc := "(LSpanningProbes$Graph;LSpanningProbes$Tree;)V" } : MethodName) ∈ zWW := zw_tab (zw_1 (List.mem_of_getElem? (i := 182) rfl)) rfl
theorem mw_183 : Cond.instanceMethod ({ cls := "SpanningProbes$Counters", name := "<init>", desc := "(LSpanningProbes$Graph;LSpanningProbes$Tree;)V" } : MethodName) ∈ zWW := zw_tab (zw_1 (List.mem_of_getElem? (i := 183) rfl)) rfl
theorem mw_184 : Cond.code ({ cls := "SpanningProbes$Counters", name := "<init>", desc := "(LSpanningProbes$Graph;LSpanningProbes$Tree;)V" } : MethodName) prog_2_method_1_code 3 (Option.none : Option Jvm.ClassFile.FieldType) ∈ zWW := zw_tab (zw_1 (List.mem_of_getElem? (i := 184) rfl)) rfl
theorem mw_185 : Cond.methodLink "SpanningProbes$Counters" 3 ({ cls := "java/lang/Object", name := "<init>", desc := "()V" } : MethodName) ∈ zWW := zw_tab (zw_1 (List.mem_of_getElem? (i := 185) rfl)) rfl
theorem mw_186 : Cond.fieldLink "SpanningProbes$Counters" 9 "SpanningProbes$Counters" "graph" "LSpanningProbes$Graph;" ∈ zWW := zw_tab (zw_1 (List.mem_of_getElem? (i := 186) rfl)) rfl
theorem mw_187 : Cond.fieldLink "SpanningProbes$Counters" 15 "SpanningProbes$Counters" "tree" "LSpanningProbes$Tree;" ∈ zWW := zw_tab (zw_1 (List.mem_of_getElem? (i := 187) rfl)) rfl
theorem mw_188 : Cond.fieldLink "SpanningProbes$Counters" 19 "SpanningProbes$Counters" "behind" "[I" ∈ zWW := zw_tab (zw_1 (List.mem_of_getElem? (i := 188) rfl)) rfl
theorem mw_189 : Cond.fieldLink "SpanningProbes$Counters" 23 "SpanningProbes$Counters" "hits" "[I" ∈ zWW := zw_tab (zw_1 (List.mem_of_getElem? (i := 189) rfl)) rfl
theorem mw_190 : Cond.fieldLink "SpanningProbes$Counters" 26 "SpanningProbes$Counters" "stops" "[I" ∈ zWW := zw_tab (zw_1 (List.mem_of_getElem? (i := 190) rfl)) rfl
theorem mw_191 : Cond.fieldLink "SpanningProbes" 167 "SpanningProbes$Counters" "stops" "[I" ∈ zWW := zw_tab (zw_1 (List.mem_of_getElem? (i := 191) rfl)) rfl
theorem mw_192 : Cond.fieldLink "SpanningProbes$Counters" 29 "SpanningProbes$Counters" "completed" "[I" ∈ zWW := zw_tab (zw_1 (List.mem_of_getElem? (i := 192) rfl)) rfl
theorem mw_193 : Cond.fieldLink "SpanningProbes" 182 "SpanningProbes$Counters" "completed" "[I" ∈ zWW := zw_tab (zw_1 (List.mem_of_getElem? (i := 193) rfl)) rfl
theorem mw_194 : Cond.laysFinal "SpanningProbes$Counters" "SpanningProbes$Counters" "graph" "LSpanningProbes$Graph;" ∈ zWW := zw_tab (zw_1 (List.mem_of_getElem? (i := 194) rfl)) rfl
theorem mw_196 : Cond.laysFinal "SpanningProbes$Counters" "SpanningProbes$Counters" "tree" "LSpanningProbes$Tree;" ∈ zWW := zw_tab (zw_1 (List.mem_of_getElem? (i := 196) rfl)) rfl
theorem mw_198 : Cond.laysFinal "SpanningProbes$Counters" "SpanningProbes$Counters" "behind" "[I" ∈ zWW := zw_tab (zw_1 (List.mem_of_getElem? (i := 198) rfl)) rfl
theorem mw_200 : Cond.laysFinal "SpanningProbes$Counters" "SpanningProbes$Counters" "hits" "[I" ∈ zWW := zw_tab (zw_1 (List.mem_of_getElem? (i := 200) rfl)) rfl
theorem mw_202 : Cond.laysFinal "SpanningProbes$Counters" "SpanningProbes$Counters" "stops" "[I" ∈ zWW := zw_tab (zw_1 (List.mem_of_getElem? (i := 202) rfl)) rfl
theorem mw_204 : Cond.laysFinal "SpanningProbes$Counters" "SpanningProbes$Counters" "completed" "[I" ∈ zWW := zw_tab (zw_1 (List.mem_of_getElem? (i := 204) rfl)) rfl
theorem mw_207 : Cond.fieldLink "SpanningProbes" 25 "SpanningProbes" "graph" "LSpanningProbes$Graph;" ∈ zWW := zw_tab (zw_1 (List.mem_of_getElem? (i := 207) rfl)) rfl
theorem mw_208 : Cond.fieldLink "SpanningProbes" 34 "SpanningProbes" "search" "LSpanningProbes$Search;" ∈ zWW := zw_tab (zw_1 (List.mem_of_getElem? (i := 208) rfl)) rfl
theorem mw_209 : Cond.fieldLink "SpanningProbes" 43 "SpanningProbes" "loops" "LSpanningProbes$Loops;" ∈ zWW := zw_tab (zw_1 (List.mem_of_getElem? (i := 209) rfl)) rfl
theorem mw_210 : Cond.fieldLink "SpanningProbes" 50 "SpanningProbes" "tree" "LSpanningProbes$Tree;" ∈ zWW := zw_tab (zw_1 (List.mem_of_getElem? (i := 210) rfl)) rfl
theorem mw_211 : Cond.fieldLink "SpanningProbes" 57 "SpanningProbes" "links" "LSpanningProbes$Links;" ∈ zWW := zw_tab (zw_1 (List.mem_of_getElem? (i := 211) rfl)) rfl
theorem mw_212 : Cond.fieldLink "SpanningProbes" 66 "SpanningProbes" "counters" "LSpanningProbes$Counters;" ∈ zWW := zw_tab (zw_1 (List.mem_of_getElem? (i := 212) rfl)) rfl
theorem mw_213 : Cond.fieldLink "SpanningProbes" 70 "SpanningProbes" "isSealed" "Z" ∈ zWW := zw_tab (zw_1 (List.mem_of_getElem? (i := 213) rfl)) rfl
theorem mw_214 : Cond.fieldLink "SpanningProbes" 74 "SpanningProbes" "where" "I" ∈ zWW := zw_tab (zw_1 (List.mem_of_getElem? (i := 214) rfl)) rfl
theorem mw_215 : Cond.fieldLink "SpanningProbes" 78 "SpanningProbes" "sum" "I" ∈ zWW := zw_tab (zw_1 (List.mem_of_getElem? (i := 215) rfl)) rfl
theorem mw_216 : Cond.laysFinal "SpanningProbes" "SpanningProbes" "graph" "LSpanningProbes$Graph;" ∈ zWW := zw_tab (zw_1 (List.mem_of_getElem? (i := 216) rfl)) rfl
theorem mw_218 : Cond.laysFinal "SpanningProbes" "SpanningProbes" "search" "LSpanningProbes$Search;" ∈ zWW := zw_tab (zw_1 (List.mem_of_getElem? (i := 218) rfl)) rfl
theorem mw_220 : Cond.laysFinal "SpanningProbes" "SpanningProbes" "loops" "LSpanningProbes$Loops;" ∈ zWW := zw_tab (zw_1 (List.mem_of_getElem? (i := 220) rfl)) rfl
theorem mw_222 : Cond.laysFinal "SpanningProbes" "SpanningProbes" "tree" "LSpanningProbes$Tree;" ∈ zWW := zw_tab (zw_1 (List.mem_of_getElem? (i := 222) rfl)) rfl
theorem mw_224 : Cond.laysFinal "SpanningProbes" "SpanningProbes" "links" "LSpanningProbes$Links;" ∈ zWW := zw_tab (zw_1 (List.mem_of_getElem? (i := 224) rfl)) rfl
theorem mw_226 : Cond.laysFinal "SpanningProbes" "SpanningProbes" "counters" "LSpanningProbes$Counters;" ∈ zWW := zw_tab (zw_1 (List.mem_of_getElem? (i := 226) rfl)) rfl
theorem mw_228 : Cond.lays "SpanningProbes" "SpanningProbes" "isSealed" "Z" ∈ zWW := zw_tab (zw_1 (List.mem_of_getElem? (i := 228) rfl)) rfl
theorem mw_230 : Cond.lays "SpanningProbes" "SpanningProbes" "where" "I" ∈ zWW := zw_tab (zw_1 (List.mem_of_getElem? (i := 230) rfl)) rfl
theorem mw_232 : Cond.lays "SpanningProbes" "SpanningProbes" "sum" "I" ∈ zWW := zw_tab (zw_1 (List.mem_of_getElem? (i := 232) rfl)) rfl
theorem mw_235 : Cond.methodLink "SpanningProbesLaw" 21 ({ cls := "SpanningProbes", name := "edge", desc := "(II)I" } : MethodName) ∈ zWW := zw_tab (zw_1 (List.mem_of_getElem? (i := 235) rfl)) rfl
theorem mw_236 : Cond.instanceMethod ({ cls := "SpanningProbes", name := "edge", desc := "(II)I" } : MethodName) ∈ zWW := zw_tab (zw_1 (List.mem_of_getElem? (i := 236) rfl)) rfl
theorem mw_237 : Cond.selects "SpanningProbes" ({ cls := "SpanningProbes", name := "edge", desc := "(II)I" } : MethodName) ({ cls := "SpanningProbes", name := "edge", desc := "(II)I" } : MethodName) ∈ zWW := zw_tab (zw_1 (List.mem_of_getElem? (i := 237) rfl)) rfl
theorem mw_238 : Cond.code ({ cls := "SpanningProbes", name := "edge", desc := "(II)I" } : MethodName) prog_1_method_2_code 3 (Option.some FieldType.int) ∈ zWW := zw_tab (zw_1 (List.mem_of_getElem? (i := 238) rfl)) rfl
theorem mw_239 : Cond.methodLink "SpanningProbes" 81 ({ cls := "SpanningProbes$Graph", name := "hasBlock", desc := "(I)Z" } : MethodName) ∈ zWW := zw_tab (zw_1 (List.mem_of_getElem? (i := 239) rfl)) rfl
theorem mw_240 : Cond.instanceMethod ({ cls := "SpanningProbes$Graph", name := "hasBlock", desc := "(I)Z" } : MethodName) ∈ zWW := zw_tab (zw_2 (List.mem_of_getElem? (i := 0) rfl)) rfl
theorem mw_241 : Cond.selects "SpanningProbes$Graph" ({ cls := "SpanningProbes$Graph", name := "hasBlock", desc := "(I)Z" } : MethodName) ({ cls := "SpanningProbes$Graph", name := "hasBlock", desc := "(I)Z" } : MethodName) ∈ zWW := zw_tab (zw_2 (List.mem_of_getElem? (i := 1) rfl)) rfl
theorem mw_242 : Cond.code ({ cls := "SpanningProbes$Graph", name := "hasBlock", desc := "(I)Z" } : MethodName) prog_3_method_2_code 2 (Option.some FieldType.boolean) ∈ zWW := zw_tab (zw_2 (List.mem_of_getElem? (i := 2) rfl)) rfl
theorem mw_243 : Cond.methodLink "SpanningProbes" 88 ({ cls := "SpanningProbes$Graph", name := "add", desc := "(II)I" } : MethodName) ∈ zWW := zw_tab (zw_2 (List.mem_of_getElem? (i := 3) rfl)) rfl
theorem mw_244 : Cond.instanceMethod ({ cls := "SpanningProbes$Graph", name := "add", desc := "(II)I" } : MethodName) ∈ zWW := zw_tab (zw_2 (List.mem_of_getElem? (i := 4) rfl)) rfl
theorem mw_245 : Cond.selects "SpanningProbes$Graph" ({ cls := "SpanningProbes$Graph", name := "add", desc := "(II)I" } : MethodName) ({ cls := "SpanningProbes$Graph", name := "add", desc := "(II)I" } : MethodName) ∈ zWW := zw_tab (zw_2 (List.mem_of_getElem? (i := 5) rfl)) rfl
theorem mw_246 : Cond.code ({ cls := "SpanningProbes$Graph", name := "add", desc := "(II)I" } : MethodName) prog_3_method_4_code 3 (Option.some FieldType.int) ∈ zWW := zw_tab (zw_2 (List.mem_of_getElem? (i := 6) rfl)) rfl
theorem mw_247 : Cond.methodLink "SpanningProbesLaw" 26 ({ cls := "SpanningProbes", name := "seal", desc := "()I" } : MethodName) ∈ zWW := zw_tab (zw_2 (List.mem_of_getElem? (i := 7) rfl)) rfl
theorem mw_248 : Cond.instanceMethod ({ cls := "SpanningProbes", name := "seal", desc := "()I" } : MethodName) ∈ zWW := zw_tab (zw_2 (List.mem_of_getElem? (i := 8) rfl)) rfl
theorem mw_249 : Cond.selects "SpanningProbes" ({ cls := "SpanningProbes", name := "seal", desc := "()I" } : MethodName) ({ cls := "SpanningProbes", name := "seal", desc := "()I" } : MethodName) ∈ zWW := zw_tab (zw_2 (List.mem_of_getElem? (i := 9) rfl)) rfl
theorem mw_250 : Cond.code ({ cls := "SpanningProbes", name := "seal", desc := "()I" } : MethodName) prog_1_method_3_code 1 (Option.some FieldType.int) ∈ zWW := zw_tab (zw_2 (List.mem_of_getElem? (i := 10) rfl)) rfl
theorem mw_251 : Cond.methodLink "SpanningProbes" 91 ({ cls := "SpanningProbes$Search", name := "explore", desc := "()V" } : MethodName) ∈ zWW := zw_tab (zw_2 (List.mem_of_getElem? (i := 11) rfl)) rfl
theorem mw_252 : Cond.instanceMethod ({ cls := "SpanningProbes$Search", name := "explore", desc := "()V" } : MethodName) ∈ zWW := zw_tab (zw_2 (List.mem_of_getElem? (i := 12) rfl)) rfl
theorem mw_253 : Cond.selects "SpanningProbes$Search" ({ cls := "SpanningProbes$Search", name := "explore", desc := "()V" } : MethodName) ({ cls := "SpanningProbes$Search", name := "explore", desc := "()V" } : MethodName) ∈ zWW := zw_tab (zw_2 (List.mem_of_getElem? (i := 13) rfl)) rfl
theorem mw_254 : Cond.code ({ cls := "SpanningProbes$Search", name := "explore", desc := "()V" } : MethodName) prog_6_method_3_code 6 (Option.none : Option Jvm.ClassFile.FieldType) ∈ zWW := zw_tab (zw_2 (List.mem_of_getElem? (i := 14) rfl)) rfl
theorem mw_255 : Cond.methodLink "SpanningProbes$Search" 45 ({ cls := "SpanningProbes$Search", name := "enter", desc := "(I)V" } : MethodName) ∈ zWW := zw_tab (zw_2 (List.mem_of_getElem? (i := 15) rfl)) rfl
theorem mw_257 : Cond.instanceMethod ({ cls := "SpanningProbes$Search", name := "enter", desc := "(I)V" } : MethodName) ∈ zWW := zw_tab (zw_2 (List.mem_of_getElem? (i := 17) rfl)) rfl
theorem mw_258 : Cond.code ({ cls := "SpanningProbes$Search", name := "enter", desc := "(I)V" } : MethodName) prog_6_method_4_code 2 (Option.none : Option Jvm.ClassFile.FieldType) ∈ zWW := zw_tab (zw_2 (List.mem_of_getElem? (i := 18) rfl)) rfl
theorem mn_259 : Cond.methodLinkNest "SpanningProbes$Search" 59 ({ cls := "SpanningProbes", name := "bit", desc := "(I)I" } : MethodName) "SpanningProbes" ∈ tables_1 := zw_2 (List.mem_of_getElem? (i := 19) rfl)
theorem mw_260 : Cond.static ({ cls := "SpanningProbes", name := "bit", desc := "(I)I" } : MethodName) ∈ zWW := zw_tab (zw_2 (List.mem_of_getElem? (i := 20) rfl)) rfl
theorem mw_261 : Cond.code ({ cls := "SpanningProbes", name := "bit", desc := "(I)I" } : MethodName) prog_1_method_29_code 1 (Option.some FieldType.int) ∈ zWW := zw_tab (zw_2 (List.mem_of_getElem? (i := 21) rfl)) rfl
theorem mw_262 : Cond.methodLink "SpanningProbes$Search" 55 ({ cls := "SpanningProbes$Graph", name := "nextFrom", desc := "(II)I" } : MethodName) ∈ zWW := zw_tab (zw_2 (List.mem_of_getElem? (i := 22) rfl)) rfl
theorem mw_263 : Cond.instanceMethod ({ cls := "SpanningProbes$Graph", name := "nextFrom", desc := "(II)I" } : MethodName) ∈ zWW := zw_tab (zw_2 (List.mem_of_getElem? (i := 23) rfl)) rfl
theorem mw_264 : Cond.selects "SpanningProbes$Graph" ({ cls := "SpanningProbes$Graph", name := "nextFrom", desc := "(II)I" } : MethodName) ({ cls := "SpanningProbes$Graph", name := "nextFrom", desc := "(II)I" } : MethodName) ∈ zWW := zw_tab (zw_2 (List.mem_of_getElem? (i := 24) rfl)) rfl
theorem mw_265 : Cond.code ({ cls := "SpanningProbes$Graph", name := "nextFrom", desc := "(II)I" } : MethodName) prog_3_method_5_code 4 (Option.some FieldType.int) ∈ zWW := zw_tab (zw_2 (List.mem_of_getElem? (i := 25) rfl)) rfl
theorem mw_266 : Cond.methodLink "SpanningProbes$Search" 63 ({ cls := "SpanningProbes$Search", name := "lookAt", desc := "(I)V" } : MethodName) ∈ zWW := zw_tab (zw_2 (List.mem_of_getElem? (i := 26) rfl)) rfl
theorem mw_268 : Cond.instanceMethod ({ cls := "SpanningProbes$Search", name := "lookAt", desc := "(I)V" } : MethodName) ∈ zWW := zw_tab (zw_2 (List.mem_of_getElem? (i := 28) rfl)) rfl
theorem mw_269 : Cond.code ({ cls := "SpanningProbes$Search", name := "lookAt", desc := "(I)V" } : MethodName) prog_6_method_5_code 3 (Option.none : Option Jvm.ClassFile.FieldType) ∈ zWW := zw_tab (zw_2 (List.mem_of_getElem? (i := 29) rfl)) rfl
theorem mn_270 : Cond.methodLinkNest "SpanningProbes$Search" 69 ({ cls := "SpanningProbes", name := "isIn", desc := "(II)Z" } : MethodName) "SpanningProbes" ∈ tables_1 := zw_2 (List.mem_of_getElem? (i := 30) rfl)
theorem mw_271 : Cond.static ({ cls := "SpanningProbes", name := "isIn", desc := "(II)Z" } : MethodName) ∈ zWW := zw_tab (zw_2 (List.mem_of_getElem? (i := 31) rfl)) rfl
theorem mw_272 : Cond.code ({ cls := "SpanningProbes", name := "isIn", desc := "(II)Z" } : MethodName) prog_1_method_30_code 2 (Option.some FieldType.boolean) ∈ zWW := zw_tab (zw_2 (List.mem_of_getElem? (i := 32) rfl)) rfl
theorem mw_273 : Cond.methodLink "SpanningProbes" 94 ({ cls := "SpanningProbes$Search", name := "metAll", desc := "()Z" } : MethodName) ∈ zWW := zw_tab (zw_2 (List.mem_of_getElem? (i := 33) rfl)) rfl
theorem mw_274 : Cond.instanceMethod ({ cls := "SpanningProbes$Search", name := "metAll", desc := "()Z" } : MethodName) ∈ zWW := zw_tab (zw_2 (List.mem_of_getElem? (i := 34) rfl)) rfl
theorem mw_275 : Cond.selects "SpanningProbes$Search" ({ cls := "SpanningProbes$Search", name := "metAll", desc := "()Z" } : MethodName) ({ cls := "SpanningProbes$Search", name := "metAll", desc := "()Z" } : MethodName) ∈ zWW := zw_tab (zw_2 (List.mem_of_getElem? (i := 35) rfl)) rfl
theorem mw_276 : Cond.code ({ cls := "SpanningProbes$Search", name := "metAll", desc := "()Z" } : MethodName) prog_6_method_2_code 1 (Option.some FieldType.boolean) ∈ zWW := zw_tab (zw_2 (List.mem_of_getElem? (i := 36) rfl)) rfl
theorem mw_277 : Cond.methodLink "SpanningProbes$Search" 39 ({ cls := "SpanningProbes$Graph", name := "allBlocks", desc := "()I" } : MethodName) ∈ zWW := zw_tab (zw_2 (List.mem_of_getElem? (i := 37) rfl)) rfl
theorem mw_278 : Cond.instanceMethod ({ cls := "SpanningProbes$Graph", name := "allBlocks", desc := "()I" } : MethodName) ∈ zWW := zw_tab (zw_2 (List.mem_of_getElem? (i := 38) rfl)) rfl
theorem mw_279 : Cond.selects "SpanningProbes$Graph" ({ cls := "SpanningProbes$Graph", name := "allBlocks", desc := "()I" } : MethodName) ({ cls := "SpanningProbes$Graph", name := "allBlocks", desc := "()I" } : MethodName) ∈ zWW := zw_tab (zw_2 (List.mem_of_getElem? (i := 39) rfl)) rfl
theorem mw_280 : Cond.code ({ cls := "SpanningProbes$Graph", name := "allBlocks", desc := "()I" } : MethodName) prog_3_method_8_code 1 (Option.some FieldType.int) ∈ zWW := zw_tab (zw_2 (List.mem_of_getElem? (i := 40) rfl)) rfl
theorem mn_281 : Cond.methodLinkNest "SpanningProbes$Graph" 36 ({ cls := "SpanningProbes", name := "bit", desc := "(I)I" } : MethodName) "SpanningProbes" ∈ tables_1 := zw_2 (List.mem_of_getElem? (i := 41) rfl)
theorem mw_282 : Cond.methodLink "SpanningProbes" 98 ({ cls := "SpanningProbes$Graph", name := "allReachExit", desc := "()Z" } : MethodName) ∈ zWW := zw_tab (zw_2 (List.mem_of_getElem? (i := 42) rfl)) rfl
theorem mw_283 : Cond.instanceMethod ({ cls := "SpanningProbes$Graph", name := "allReachExit", desc := "()Z" } : MethodName) ∈ zWW := zw_tab (zw_2 (List.mem_of_getElem? (i := 43) rfl)) rfl
theorem mw_284 : Cond.selects "SpanningProbes$Graph" ({ cls := "SpanningProbes$Graph", name := "allReachExit", desc := "()Z" } : MethodName) ({ cls := "SpanningProbes$Graph", name := "allReachExit", desc := "()Z" } : MethodName) ∈ zWW := zw_tab (zw_2 (List.mem_of_getElem? (i := 44) rfl)) rfl
theorem mw_285 : Cond.code ({ cls := "SpanningProbes$Graph", name := "allReachExit", desc := "()Z" } : MethodName) prog_3_method_7_code 1 (Option.some FieldType.boolean) ∈ zWW := zw_tab (zw_2 (List.mem_of_getElem? (i := 45) rfl)) rfl
theorem mw_286 : Cond.methodLink "SpanningProbes$Graph" 29 ({ cls := "SpanningProbes$Graph", name := "blocksReaching", desc := "(II)I" } : MethodName) ∈ zWW := zw_tab (zw_2 (List.mem_of_getElem? (i := 46) rfl)) rfl
theorem mw_287 : Cond.instanceMethod ({ cls := "SpanningProbes$Graph", name := "blocksReaching", desc := "(II)I" } : MethodName) ∈ zWW := zw_tab (zw_2 (List.mem_of_getElem? (i := 47) rfl)) rfl
theorem mw_288 : Cond.selects "SpanningProbes$Graph" ({ cls := "SpanningProbes$Graph", name := "blocksReaching", desc := "(II)I" } : MethodName) ({ cls := "SpanningProbes$Graph", name := "blocksReaching", desc := "(II)I" } : MethodName) ∈ zWW := zw_tab (zw_2 (List.mem_of_getElem? (i := 48) rfl)) rfl
theorem mw_289 : Cond.code ({ cls := "SpanningProbes$Graph", name := "blocksReaching", desc := "(II)I" } : MethodName) prog_3_method_9_code 6 (Option.some FieldType.int) ∈ zWW := zw_tab (zw_2 (List.mem_of_getElem? (i := 49) rfl)) rfl
theorem mn_290 : Cond.methodLinkNest "SpanningProbes$Graph" 40 ({ cls := "SpanningProbes", name := "isIn", desc := "(II)Z" } : MethodName) "SpanningProbes" ∈ tables_1 := zw_2 (List.mem_of_getElem? (i := 50) rfl)
theorem mw_291 : Cond.methodLink "SpanningProbes$Graph" 32 ({ cls := "SpanningProbes$Graph", name := "allBlocks", desc := "()I" } : MethodName) ∈ zWW := zw_tab (zw_2 (List.mem_of_getElem? (i := 51) rfl)) rfl
theorem mw_292 : Cond.methodLink "SpanningProbes" 101 ({ cls := "SpanningProbes$Links", name := "number", desc := "()V" } : MethodName) ∈ zWW := zw_tab (zw_2 (List.mem_of_getElem? (i := 52) rfl)) rfl
theorem mw_293 : Cond.instanceMethod ({ cls := "SpanningProbes$Links", name := "number", desc := "()V" } : MethodName) ∈ zWW := zw_tab (zw_2 (List.mem_of_getElem? (i := 53) rfl)) rfl
theorem mw_294 : Cond.selects "SpanningProbes$Links" ({ cls := "SpanningProbes$Links", name := "number", desc := "()V" } : MethodName) ({ cls := "SpanningProbes$Links", name := "number", desc := "()V" } : MethodName) ∈ zWW := zw_tab (zw_2 (List.mem_of_getElem? (i := 54) rfl)) rfl
theorem mw_295 : Cond.code ({ cls := "SpanningProbes$Links", name := "number", desc := "()V" } : MethodName) prog_4_method_5_code 3 (Option.none : Option Jvm.ClassFile.FieldType) ∈ zWW := zw_tab (zw_2 (List.mem_of_getElem? (i := 55) rfl)) rfl
theorem mw_296 : Cond.methodLink "SpanningProbes$Links" 72 ({ cls := "SpanningProbes$Links", name := "numberFrom", desc := "(I)I" } : MethodName) ∈ zWW := zw_tab (zw_2 (List.mem_of_getElem? (i := 56) rfl)) rfl
theorem mw_298 : Cond.instanceMethod ({ cls := "SpanningProbes$Links", name := "numberFrom", desc := "(I)I" } : MethodName) ∈ zWW := zw_tab (zw_2 (List.mem_of_getElem? (i := 58) rfl)) rfl
theorem mw_299 : Cond.code ({ cls := "SpanningProbes$Links", name := "numberFrom", desc := "(I)I" } : MethodName) prog_4_method_6_code 4 (Option.some FieldType.int) ∈ zWW := zw_tab (zw_2 (List.mem_of_getElem? (i := 59) rfl)) rfl
theorem mw_300 : Cond.methodLink "SpanningProbes$Links" 62 ({ cls := "SpanningProbes$Links", name := "targetOf", desc := "(I)I" } : MethodName) ∈ zWW := zw_tab (zw_2 (List.mem_of_getElem? (i := 60) rfl)) rfl
theorem mw_301 : Cond.instanceMethod ({ cls := "SpanningProbes$Links", name := "targetOf", desc := "(I)I" } : MethodName) ∈ zWW := zw_tab (zw_2 (List.mem_of_getElem? (i := 61) rfl)) rfl
theorem mw_302 : Cond.selects "SpanningProbes$Links" ({ cls := "SpanningProbes$Links", name := "targetOf", desc := "(I)I" } : MethodName) ({ cls := "SpanningProbes$Links", name := "targetOf", desc := "(I)I" } : MethodName) ∈ zWW := zw_tab (zw_2 (List.mem_of_getElem? (i := 62) rfl)) rfl
theorem mw_303 : Cond.code ({ cls := "SpanningProbes$Links", name := "targetOf", desc := "(I)I" } : MethodName) prog_4_method_2_code 2 (Option.some FieldType.int) ∈ zWW := zw_tab (zw_2 (List.mem_of_getElem? (i := 63) rfl)) rfl
theorem mw_304 : Cond.methodLink "SpanningProbes$Links" 75 ({ cls := "SpanningProbes$Links", name := "numberStarts", desc := "(I)I" } : MethodName) ∈ zWW := zw_tab (zw_2 (List.mem_of_getElem? (i := 64) rfl)) rfl
theorem mw_306 : Cond.instanceMethod ({ cls := "SpanningProbes$Links", name := "numberStarts", desc := "(I)I" } : MethodName) ∈ zWW := zw_tab (zw_2 (List.mem_of_getElem? (i := 66) rfl)) rfl
theorem mw_307 : Cond.code ({ cls := "SpanningProbes$Links", name := "numberStarts", desc := "(I)I" } : MethodName) prog_4_method_7_code 4 (Option.some FieldType.int) ∈ zWW := zw_tab (zw_2 (List.mem_of_getElem? (i := 67) rfl)) rfl
theorem mw_308 : Cond.methodLink "SpanningProbes" 107 ({ cls := "SpanningProbes$Loops", name := "measure", desc := "()V" } : MethodName) ∈ zWW := zw_tab (zw_2 (List.mem_of_getElem? (i := 68) rfl)) rfl
theorem mw_309 : Cond.instanceMethod ({ cls := "SpanningProbes$Loops", name := "measure", desc := "()V" } : MethodName) ∈ zWW := zw_tab (zw_2 (List.mem_of_getElem? (i := 69) rfl)) rfl
theorem mw_310 : Cond.selects "SpanningProbes$Loops" ({ cls := "SpanningProbes$Loops", name := "measure", desc := "()V" } : MethodName) ({ cls := "SpanningProbes$Loops", name := "measure", desc := "()V" } : MethodName) ∈ zWW := zw_tab (zw_2 (List.mem_of_getElem? (i := 70) rfl)) rfl
theorem mw_311 : Cond.code ({ cls := "SpanningProbes$Loops", name := "measure", desc := "()V" } : MethodName) prog_5_method_2_code 2 (Option.none : Option Jvm.ClassFile.FieldType) ∈ zWW := zw_tab (zw_2 (List.mem_of_getElem? (i := 71) rfl)) rfl
theorem mw_312 : Cond.methodLink "SpanningProbes$Loops" 38 ({ cls := "SpanningProbes$Loops", name := "loopOf", desc := "(I)I" } : MethodName) ∈ zWW := zw_tab (zw_2 (List.mem_of_getElem? (i := 72) rfl)) rfl
theorem mw_314 : Cond.instanceMethod ({ cls := "SpanningProbes$Loops", name := "loopOf", desc := "(I)I" } : MethodName) ∈ zWW := zw_tab (zw_2 (List.mem_of_getElem? (i := 74) rfl)) rfl
theorem mw_315 : Cond.code ({ cls := "SpanningProbes$Loops", name := "loopOf", desc := "(I)I" } : MethodName) prog_5_method_3_code 3 (Option.some FieldType.int) ∈ zWW := zw_tab (zw_2 (List.mem_of_getElem? (i := 75) rfl)) rfl
theorem mn_316 : Cond.methodLinkNest "SpanningProbes$Loops" 52 ({ cls := "SpanningProbes", name := "bit", desc := "(I)I" } : MethodName) "SpanningProbes" ∈ tables_1 := zw_2 (List.mem_of_getElem? (i := 76) rfl)
theorem mw_317 : Cond.methodLink "SpanningProbes$Loops" 58 ({ cls := "SpanningProbes$Graph", name := "blocksReaching", desc := "(II)I" } : MethodName) ∈ zWW := zw_tab (zw_2 (List.mem_of_getElem? (i := 77) rfl)) rfl
theorem mw_318 : Cond.methodLink "SpanningProbes$Loops" 42 ({ cls := "SpanningProbes$Loops", name := "deepen", desc := "(I)V" } : MethodName) ∈ zWW := zw_tab (zw_2 (List.mem_of_getElem? (i := 78) rfl)) rfl
theorem mw_320 : Cond.instanceMethod ({ cls := "SpanningProbes$Loops", name := "deepen", desc := "(I)V" } : MethodName) ∈ zWW := zw_tab (zw_2 (List.mem_of_getElem? (i := 80) rfl)) rfl
theorem mw_321 : Cond.code ({ cls := "SpanningProbes$Loops", name := "deepen", desc := "(I)V" } : MethodName) prog_5_method_4_code 3 (Option.none : Option Jvm.ClassFile.FieldType) ∈ zWW := zw_tab (zw_2 (List.mem_of_getElem? (i := 81) rfl)) rfl
theorem mn_322 : Cond.methodLinkNest "SpanningProbes$Loops" 65 ({ cls := "SpanningProbes", name := "isIn", desc := "(II)Z" } : MethodName) "SpanningProbes" ∈ tables_1 := zw_2 (List.mem_of_getElem? (i := 82) rfl)
theorem mw_323 : Cond.methodLink "SpanningProbes$Loops" 46 ({ cls := "SpanningProbes$Loops", name := "putInOrder", desc := "()V" } : MethodName) ∈ zWW := zw_tab (zw_2 (List.mem_of_getElem? (i := 83) rfl)) rfl
theorem mw_325 : Cond.instanceMethod ({ cls := "SpanningProbes$Loops", name := "putInOrder", desc := "()V" } : MethodName) ∈ zWW := zw_tab (zw_2 (List.mem_of_getElem? (i := 85) rfl)) rfl
theorem mw_326 : Cond.code ({ cls := "SpanningProbes$Loops", name := "putInOrder", desc := "()V" } : MethodName) prog_5_method_6_code 4 (Option.none : Option Jvm.ClassFile.FieldType) ∈ zWW := zw_tab (zw_2 (List.mem_of_getElem? (i := 86) rfl)) rfl
theorem mw_327 : Cond.methodLink "SpanningProbes$Loops" 74 ({ cls := "SpanningProbes$Loops", name := "weightOf", desc := "(I)I" } : MethodName) ∈ zWW := zw_tab (zw_2 (List.mem_of_getElem? (i := 87) rfl)) rfl
theorem mw_329 : Cond.instanceMethod ({ cls := "SpanningProbes$Loops", name := "weightOf", desc := "(I)I" } : MethodName) ∈ zWW := zw_tab (zw_2 (List.mem_of_getElem? (i := 89) rfl)) rfl
theorem mw_330 : Cond.code ({ cls := "SpanningProbes$Loops", name := "weightOf", desc := "(I)I" } : MethodName) prog_5_method_5_code 2 (Option.some FieldType.int) ∈ zWW := zw_tab (zw_2 (List.mem_of_getElem? (i := 90) rfl)) rfl
theorem mw_331 : Cond.methodLink "SpanningProbes$Loops" 69 ({ cls := "java/lang/Math", name := "min", desc := "(II)I" } : MethodName) ∈ zWW := zw_tab (zw_2 (List.mem_of_getElem? (i := 91) rfl)) rfl
theorem mw_332 : Cond.methodLink "SpanningProbes" 114 ({ cls := "SpanningProbes$Tree", name := "grow", desc := "([II)V" } : MethodName) ∈ zWW := zw_tab (zw_2 (List.mem_of_getElem? (i := 92) rfl)) rfl
theorem mw_333 : Cond.instanceMethod ({ cls := "SpanningProbes$Tree", name := "grow", desc := "([II)V" } : MethodName) ∈ zWW := zw_tab (zw_2 (List.mem_of_getElem? (i := 93) rfl)) rfl
theorem mw_334 : Cond.selects "SpanningProbes$Tree" ({ cls := "SpanningProbes$Tree", name := "grow", desc := "([II)V" } : MethodName) ({ cls := "SpanningProbes$Tree", name := "grow", desc := "([II)V" } : MethodName) ∈ zWW := zw_tab (zw_2 (List.mem_of_getElem? (i := 94) rfl)) rfl
theorem mw_335 : Cond.code ({ cls := "SpanningProbes$Tree", name := "grow", desc := "([II)V" } : MethodName) prog_7_method_2_code 5 (Option.none : Option Jvm.ClassFile.FieldType) ∈ zWW := zw_tab (zw_2 (List.mem_of_getElem? (i := 95) rfl)) rfl
theorem mw_336 : Cond.methodLink "SpanningProbes$Tree" 29 ({ cls := "SpanningProbes$Tree", name := "join", desc := "(II)Z" } : MethodName) ∈ zWW := zw_tab (zw_2 (List.mem_of_getElem? (i := 96) rfl)) rfl
theorem mw_338 : Cond.instanceMethod ({ cls := "SpanningProbes$Tree", name := "join", desc := "(II)Z" } : MethodName) ∈ zWW := zw_tab (zw_2 (List.mem_of_getElem? (i := 98) rfl)) rfl
theorem mw_339 : Cond.code ({ cls := "SpanningProbes$Tree", name := "join", desc := "(II)Z" } : MethodName) prog_7_method_3_code 6 (Option.some FieldType.boolean) ∈ zWW := zw_tab (zw_2 (List.mem_of_getElem? (i := 99) rfl)) rfl
theorem mw_340 : Cond.methodLink "SpanningProbes" 118 ({ cls := "SpanningProbes$Counters", name := "cut", desc := "()V" } : MethodName) ∈ zWW := zw_tab (zw_2 (List.mem_of_getElem? (i := 100) rfl)) rfl
theorem mw_341 : Cond.instanceMethod ({ cls := "SpanningProbes$Counters", name := "cut", desc := "()V" } : MethodName) ∈ zWW := zw_tab (zw_2 (List.mem_of_getElem? (i := 101) rfl)) rfl
theorem mw_342 : Cond.selects "SpanningProbes$Counters" ({ cls := "SpanningProbes$Counters", name := "cut", desc := "()V" } : MethodName) ({ cls := "SpanningProbes$Counters", name := "cut", desc := "()V" } : MethodName) ∈ zWW := zw_tab (zw_2 (List.mem_of_getElem? (i := 102) rfl)) rfl
theorem mw_343 : Cond.code ({ cls := "SpanningProbes$Counters", name := "cut", desc := "()V" } : MethodName) prog_2_method_3_code 2 (Option.none : Option Jvm.ClassFile.FieldType) ∈ zWW := zw_tab (zw_2 (List.mem_of_getElem? (i := 103) rfl)) rfl
theorem mw_344 : Cond.methodLink "SpanningProbes$Counters" 50 ({ cls := "SpanningProbes$Tree", name := "blocksBehind", desc := "(I)I" } : MethodName) ∈ zWW := zw_tab (zw_2 (List.mem_of_getElem? (i := 104) rfl)) rfl
theorem mw_345 : Cond.instanceMethod ({ cls := "SpanningProbes$Tree", name := "blocksBehind", desc := "(I)I" } : MethodName) ∈ zWW := zw_tab (zw_2 (List.mem_of_getElem? (i := 105) rfl)) rfl
theorem mw_346 : Cond.selects "SpanningProbes$Tree" ({ cls := "SpanningProbes$Tree", name := "blocksBehind", desc := "(I)I" } : MethodName) ({ cls := "SpanningProbes$Tree", name := "blocksBehind", desc := "(I)I" } : MethodName) ∈ zWW := zw_tab (zw_2 (List.mem_of_getElem? (i := 106) rfl)) rfl
theorem mw_347 : Cond.code ({ cls := "SpanningProbes$Tree", name := "blocksBehind", desc := "(I)I" } : MethodName) prog_7_method_4_code 6 (Option.some FieldType.int) ∈ zWW := zw_tab (zw_2 (List.mem_of_getElem? (i := 107) rfl)) rfl
theorem mn_348 : Cond.methodLinkNest "SpanningProbes$Tree" 39 ({ cls := "SpanningProbes", name := "bit", desc := "(I)I" } : MethodName) "SpanningProbes" ∈ tables_1 := zw_2 (List.mem_of_getElem? (i := 108) rfl)
theorem mw_349 : Cond.methodLink "SpanningProbes$Tree" 46 ({ cls := "SpanningProbes$Graph", name := "allBlocks", desc := "()I" } : MethodName) ∈ zWW := zw_tab (zw_2 (List.mem_of_getElem? (i := 109) rfl)) rfl
theorem mw_350 : Cond.methodLink "SpanningProbes" 121 ({ cls := "SpanningProbes$Links", name := "spread", desc := "([I)V" } : MethodName) ∈ zWW := zw_tab (zw_2 (List.mem_of_getElem? (i := 110) rfl)) rfl
theorem mw_351 : Cond.instanceMethod ({ cls := "SpanningProbes$Links", name := "spread", desc := "([I)V" } : MethodName) ∈ zWW := zw_tab (zw_2 (List.mem_of_getElem? (i := 111) rfl)) rfl
theorem mw_352 : Cond.selects "SpanningProbes$Links" ({ cls := "SpanningProbes$Links", name := "spread", desc := "([I)V" } : MethodName) ({ cls := "SpanningProbes$Links", name := "spread", desc := "([I)V" } : MethodName) ∈ zWW := zw_tab (zw_2 (List.mem_of_getElem? (i := 112) rfl)) rfl
theorem mw_353 : Cond.code ({ cls := "SpanningProbes$Links", name := "spread", desc := "([I)V" } : MethodName) prog_4_method_8_code 5 (Option.none : Option Jvm.ClassFile.FieldType) ∈ zWW := zw_tab (zw_2 (List.mem_of_getElem? (i := 113) rfl)) rfl
theorem mw_354 : Cond.methodLink "SpanningProbes$Links" 81 ({ cls := "SpanningProbes$Links", name := "leaveOutBack", desc := "([I)I" } : MethodName) ∈ zWW := zw_tab (zw_2 (List.mem_of_getElem? (i := 114) rfl)) rfl
theorem mw_356 : Cond.instanceMethod ({ cls := "SpanningProbes$Links", name := "leaveOutBack", desc := "([I)I" } : MethodName) ∈ zWW := zw_tab (zw_2 (List.mem_of_getElem? (i := 116) rfl)) rfl
theorem mw_357 : Cond.code ({ cls := "SpanningProbes$Links", name := "leaveOutBack", desc := "([I)I" } : MethodName) prog_4_method_9_code 4 (Option.some FieldType.int) ∈ zWW := zw_tab (zw_2 (List.mem_of_getElem? (i := 117) rfl)) rfl
theorem mw_358 : Cond.methodLink "SpanningProbes$Links" 85 ({ cls := "SpanningProbes$Tree", name := "grow", desc := "([II)V" } : MethodName) ∈ zWW := zw_tab (zw_2 (List.mem_of_getElem? (i := 118) rfl)) rfl
theorem mn_359 : Cond.methodLinkNest "SpanningProbes$Links" 89 ({ cls := "SpanningProbes", name := "bit", desc := "(I)I" } : MethodName) "SpanningProbes" ∈ tables_1 := zw_2 (List.mem_of_getElem? (i := 119) rfl)
theorem mw_360 : Cond.methodLink "SpanningProbes$Links" 95 ({ cls := "SpanningProbes$Links", name := "spreadOver", desc := "(II)I" } : MethodName) ∈ zWW := zw_tab (zw_2 (List.mem_of_getElem? (i := 120) rfl)) rfl
theorem mw_362 : Cond.instanceMethod ({ cls := "SpanningProbes$Links", name := "spreadOver", desc := "(II)I" } : MethodName) ∈ zWW := zw_tab (zw_2 (List.mem_of_getElem? (i := 122) rfl)) rfl
theorem mw_363 : Cond.code ({ cls := "SpanningProbes$Links", name := "spreadOver", desc := "(II)I" } : MethodName) prog_4_method_10_code 5 (Option.some FieldType.int) ∈ zWW := zw_tab (zw_2 (List.mem_of_getElem? (i := 123) rfl)) rfl
theorem mn_364 : Cond.methodLinkNest "SpanningProbes$Links" 99 ({ cls := "SpanningProbes", name := "isIn", desc := "(II)Z" } : MethodName) "SpanningProbes" ∈ tables_1 := zw_2 (List.mem_of_getElem? (i := 124) rfl)
theorem mw_365 : Cond.methodLink "SpanningProbesLaw" 31 ({ cls := "SpanningProbes", name := "back", desc := "(I)Z" } : MethodName) ∈ zWW := zw_tab (zw_2 (List.mem_of_getElem? (i := 125) rfl)) rfl
theorem mw_366 : Cond.instanceMethod ({ cls := "SpanningProbes", name := "back", desc := "(I)Z" } : MethodName) ∈ zWW := zw_tab (zw_2 (List.mem_of_getElem? (i := 126) rfl)) rfl
theorem mw_367 : Cond.selects "SpanningProbes" ({ cls := "SpanningProbes", name := "back", desc := "(I)Z" } : MethodName) ({ cls := "SpanningProbes", name := "back", desc := "(I)Z" } : MethodName) ∈ zWW := zw_tab (zw_2 (List.mem_of_getElem? (i := 127) rfl)) rfl
theorem mw_368 : Cond.code ({ cls := "SpanningProbes", name := "back", desc := "(I)Z" } : MethodName) prog_1_method_4_code 2 (Option.some FieldType.boolean) ∈ zWW := zw_tab (zw_2 (List.mem_of_getElem? (i := 128) rfl)) rfl
theorem mw_369 : Cond.methodLink "SpanningProbes" 125 ({ cls := "SpanningProbes", name := "knowsEdge", desc := "(I)Z" } : MethodName) ∈ zWW := zw_tab (zw_2 (List.mem_of_getElem? (i := 129) rfl)) rfl
theorem mw_371 : Cond.instanceMethod ({ cls := "SpanningProbes", name := "knowsEdge", desc := "(I)Z" } : MethodName) ∈ zWW := zw_tab (zw_2 (List.mem_of_getElem? (i := 131) rfl)) rfl
theorem mw_372 : Cond.code ({ cls := "SpanningProbes", name := "knowsEdge", desc := "(I)Z" } : MethodName) prog_1_method_22_code 2 (Option.some FieldType.boolean) ∈ zWW := zw_tab (zw_2 (List.mem_of_getElem? (i := 132) rfl)) rfl
theorem mw_373 : Cond.methodLink "SpanningProbes" 152 ({ cls := "SpanningProbes$Graph", name := "hasEdge", desc := "(I)Z" } : MethodName) ∈ zWW := zw_tab (zw_2 (List.mem_of_getElem? (i := 133) rfl)) rfl
theorem mw_374 : Cond.instanceMethod ({ cls := "SpanningProbes$Graph", name := "hasEdge", desc := "(I)Z" } : MethodName) ∈ zWW := zw_tab (zw_2 (List.mem_of_getElem? (i := 134) rfl)) rfl
theorem mw_375 : Cond.selects "SpanningProbes$Graph" ({ cls := "SpanningProbes$Graph", name := "hasEdge", desc := "(I)Z" } : MethodName) ({ cls := "SpanningProbes$Graph", name := "hasEdge", desc := "(I)Z" } : MethodName) ∈ zWW := zw_tab (zw_2 (List.mem_of_getElem? (i := 135) rfl)) rfl
theorem mw_376 : Cond.code ({ cls := "SpanningProbes$Graph", name := "hasEdge", desc := "(I)Z" } : MethodName) prog_3_method_3_code 2 (Option.some FieldType.boolean) ∈ zWW := zw_tab (zw_2 (List.mem_of_getElem? (i := 136) rfl)) rfl
theorem mw_377 : Cond.methodLink "SpanningProbesLaw" 36 ({ cls := "SpanningProbes", name := "depth", desc := "(I)I" } : MethodName) ∈ zWW := zw_tab (zw_2 (List.mem_of_getElem? (i := 137) rfl)) rfl
theorem mw_378 : Cond.instanceMethod ({ cls := "SpanningProbes", name := "depth", desc := "(I)I" } : MethodName) ∈ zWW := zw_tab (zw_2 (List.mem_of_getElem? (i := 138) rfl)) rfl
theorem mw_379 : Cond.selects "SpanningProbes" ({ cls := "SpanningProbes", name := "depth", desc := "(I)I" } : MethodName) ({ cls := "SpanningProbes", name := "depth", desc := "(I)I" } : MethodName) ∈ zWW := zw_tab (zw_2 (List.mem_of_getElem? (i := 139) rfl)) rfl
theorem mw_380 : Cond.code ({ cls := "SpanningProbes", name := "depth", desc := "(I)I" } : MethodName) prog_1_method_5_code 2 (Option.some FieldType.int) ∈ zWW := zw_tab (zw_2 (List.mem_of_getElem? (i := 140) rfl)) rfl
theorem mw_381 : Cond.methodLink "SpanningProbes" 132 ({ cls := "SpanningProbes", name := "knowsBlock", desc := "(I)Z" } : MethodName) ∈ zWW := zw_tab (zw_2 (List.mem_of_getElem? (i := 141) rfl)) rfl
theorem mw_383 : Cond.instanceMethod ({ cls := "SpanningProbes", name := "knowsBlock", desc := "(I)Z" } : MethodName) ∈ zWW := zw_tab (zw_2 (List.mem_of_getElem? (i := 143) rfl)) rfl
theorem mw_384 : Cond.code ({ cls := "SpanningProbes", name := "knowsBlock", desc := "(I)Z" } : MethodName) prog_1_method_23_code 2 (Option.some FieldType.boolean) ∈ zWW := zw_tab (zw_2 (List.mem_of_getElem? (i := 144) rfl)) rfl
theorem mw_385 : Cond.methodLink "SpanningProbesLaw" 41 ({ cls := "SpanningProbes", name := "probe", desc := "(I)Z" } : MethodName) ∈ zWW := zw_tab (zw_2 (List.mem_of_getElem? (i := 145) rfl)) rfl
theorem mw_386 : Cond.instanceMethod ({ cls := "SpanningProbes", name := "probe", desc := "(I)Z" } : MethodName) ∈ zWW := zw_tab (zw_2 (List.mem_of_getElem? (i := 146) rfl)) rfl
theorem mw_387 : Cond.selects "SpanningProbes" ({ cls := "SpanningProbes", name := "probe", desc := "(I)Z" } : MethodName) ({ cls := "SpanningProbes", name := "probe", desc := "(I)Z" } : MethodName) ∈ zWW := zw_tab (zw_2 (List.mem_of_getElem? (i := 147) rfl)) rfl
theorem mw_388 : Cond.code ({ cls := "SpanningProbes", name := "probe", desc := "(I)Z" } : MethodName) prog_1_method_6_code 2 (Option.some FieldType.boolean) ∈ zWW := zw_tab (zw_2 (List.mem_of_getElem? (i := 148) rfl)) rfl
theorem mw_389 : Cond.methodLink "SpanningProbesLaw" 45 ({ cls := "SpanningProbes", name := "increment", desc := "(I)I" } : MethodName) ∈ zWW := zw_tab (zw_2 (List.mem_of_getElem? (i := 149) rfl)) rfl
theorem mw_390 : Cond.instanceMethod ({ cls := "SpanningProbes", name := "increment", desc := "(I)I" } : MethodName) ∈ zWW := zw_tab (zw_2 (List.mem_of_getElem? (i := 150) rfl)) rfl
theorem mw_391 : Cond.selects "SpanningProbes" ({ cls := "SpanningProbes", name := "increment", desc := "(I)I" } : MethodName) ({ cls := "SpanningProbes", name := "increment", desc := "(I)I" } : MethodName) ∈ zWW := zw_tab (zw_2 (List.mem_of_getElem? (i := 151) rfl)) rfl
theorem mw_392 : Cond.code ({ cls := "SpanningProbes", name := "increment", desc := "(I)I" } : MethodName) prog_1_method_7_code 2 (Option.some FieldType.int) ∈ zWW := zw_tab (zw_2 (List.mem_of_getElem? (i := 152) rfl)) rfl
theorem mw_393 : Cond.methodLink "SpanningProbes" 141 ({ cls := "SpanningProbes$Links", name := "incrementOf", desc := "(I)I" } : MethodName) ∈ zWW := zw_tab (zw_2 (List.mem_of_getElem? (i := 153) rfl)) rfl
theorem mw_394 : Cond.instanceMethod ({ cls := "SpanningProbes$Links", name := "incrementOf", desc := "(I)I" } : MethodName) ∈ zWW := zw_tab (zw_2 (List.mem_of_getElem? (i := 154) rfl)) rfl
theorem mw_395 : Cond.selects "SpanningProbes$Links" ({ cls := "SpanningProbes$Links", name := "incrementOf", desc := "(I)I" } : MethodName) ({ cls := "SpanningProbes$Links", name := "incrementOf", desc := "(I)I" } : MethodName) ∈ zWW := zw_tab (zw_2 (List.mem_of_getElem? (i := 155) rfl)) rfl
theorem mw_396 : Cond.code ({ cls := "SpanningProbes$Links", name := "incrementOf", desc := "(I)I" } : MethodName) prog_4_method_3_code 2 (Option.some FieldType.int) ∈ zWW := zw_tab (zw_2 (List.mem_of_getElem? (i := 156) rfl)) rfl
theorem mw_397 : Cond.constant "SpanningProbes" 145 (-2147483648 : Int32) ∈ zWW := zw_tab (zw_2 (List.mem_of_getElem? (i := 157) rfl)) rfl
theorem mw_398 : Cond.methodLink "SpanningProbesLaw" 49 ({ cls := "SpanningProbes", name := "reset", desc := "(I)I" } : MethodName) ∈ zWW := zw_tab (zw_2 (List.mem_of_getElem? (i := 158) rfl)) rfl
theorem mw_399 : Cond.instanceMethod ({ cls := "SpanningProbes", name := "reset", desc := "(I)I" } : MethodName) ∈ zWW := zw_tab (zw_2 (List.mem_of_getElem? (i := 159) rfl)) rfl
theorem mw_400 : Cond.selects "SpanningProbes" ({ cls := "SpanningProbes", name := "reset", desc := "(I)I" } : MethodName) ({ cls := "SpanningProbes", name := "reset", desc := "(I)I" } : MethodName) ∈ zWW := zw_tab (zw_2 (List.mem_of_getElem? (i := 160) rfl)) rfl
theorem mw_401 : Cond.code ({ cls := "SpanningProbes", name := "reset", desc := "(I)I" } : MethodName) prog_1_method_8_code 2 (Option.some FieldType.int) ∈ zWW := zw_tab (zw_2 (List.mem_of_getElem? (i := 161) rfl)) rfl
theorem mw_402 : Cond.methodLink "SpanningProbes" 146 ({ cls := "SpanningProbes$Links", name := "startIncrementOf", desc := "(I)I" } : MethodName) ∈ zWW := zw_tab (zw_2 (List.mem_of_getElem? (i := 162) rfl)) rfl
theorem mw_403 : Cond.instanceMethod ({ cls := "SpanningProbes$Links", name := "startIncrementOf", desc := "(I)I" } : MethodName) ∈ zWW := zw_tab (zw_2 (List.mem_of_getElem? (i := 163) rfl)) rfl
theorem mw_404 : Cond.selects "SpanningProbes$Links" ({ cls := "SpanningProbes$Links", name := "startIncrementOf", desc := "(I)I" } : MethodName) ({ cls := "SpanningProbes$Links", name := "startIncrementOf", desc := "(I)I" } : MethodName) ∈ zWW := zw_tab (zw_2 (List.mem_of_getElem? (i := 164) rfl)) rfl
theorem mw_405 : Cond.code ({ cls := "SpanningProbes$Links", name := "startIncrementOf", desc := "(I)I" } : MethodName) prog_4_method_4_code 2 (Option.some FieldType.int) ∈ zWW := zw_tab (zw_2 (List.mem_of_getElem? (i := 165) rfl)) rfl
theorem mw_406 : Cond.methodLink "SpanningProbesLaw" 53 ({ cls := "SpanningProbes", name := "start", desc := "()Z" } : MethodName) ∈ zWW := zw_tab (zw_2 (List.mem_of_getElem? (i := 166) rfl)) rfl
theorem mw_407 : Cond.instanceMethod ({ cls := "SpanningProbes", name := "start", desc := "()Z" } : MethodName) ∈ zWW := zw_tab (zw_2 (List.mem_of_getElem? (i := 167) rfl)) rfl
theorem mw_408 : Cond.selects "SpanningProbes" ({ cls := "SpanningProbes", name := "start", desc := "()Z" } : MethodName) ({ cls := "SpanningProbes", name := "start", desc := "()Z" } : MethodName) ∈ zWW := zw_tab (zw_2 (List.mem_of_getElem? (i := 168) rfl)) rfl
theorem mw_409 : Cond.code ({ cls := "SpanningProbes", name := "start", desc := "()Z" } : MethodName) prog_1_method_9_code 1 (Option.some FieldType.boolean) ∈ zWW := zw_tab (zw_2 (List.mem_of_getElem? (i := 169) rfl)) rfl
theorem mw_410 : Cond.methodLink "SpanningProbes" 149 ({ cls := "SpanningProbes", name := "isUnderWay", desc := "()Z" } : MethodName) ∈ zWW := zw_tab (zw_2 (List.mem_of_getElem? (i := 170) rfl)) rfl
theorem mw_412 : Cond.instanceMethod ({ cls := "SpanningProbes", name := "isUnderWay", desc := "()Z" } : MethodName) ∈ zWW := zw_tab (zw_2 (List.mem_of_getElem? (i := 172) rfl)) rfl
theorem mw_413 : Cond.code ({ cls := "SpanningProbes", name := "isUnderWay", desc := "()Z" } : MethodName) prog_1_method_25_code 1 (Option.some FieldType.boolean) ∈ zWW := zw_tab (zw_2 (List.mem_of_getElem? (i := 173) rfl)) rfl
theorem mw_414 : Cond.methodLink "SpanningProbesLaw" 58 ({ cls := "SpanningProbes", name := "take", desc := "(I)I" } : MethodName) ∈ zWW := zw_tab (zw_2 (List.mem_of_getElem? (i := 174) rfl)) rfl
theorem mw_415 : Cond.instanceMethod ({ cls := "SpanningProbes", name := "take", desc := "(I)I" } : MethodName) ∈ zWW := zw_tab (zw_2 (List.mem_of_getElem? (i := 175) rfl)) rfl
theorem mw_416 : Cond.selects "SpanningProbes" ({ cls := "SpanningProbes", name := "take", desc := "(I)I" } : MethodName) ({ cls := "SpanningProbes", name := "take", desc := "(I)I" } : MethodName) ∈ zWW := zw_tab (zw_2 (List.mem_of_getElem? (i := 176) rfl)) rfl
theorem mw_417 : Cond.code ({ cls := "SpanningProbes", name := "take", desc := "(I)I" } : MethodName) prog_1_method_10_code 2 (Option.some FieldType.int) ∈ zWW := zw_tab (zw_2 (List.mem_of_getElem? (i := 177) rfl)) rfl
theorem mw_418 : Cond.methodLink "SpanningProbes" 158 ({ cls := "SpanningProbes", name := "pass", desc := "(I)V" } : MethodName) ∈ zWW := zw_tab (zw_2 (List.mem_of_getElem? (i := 178) rfl)) rfl
theorem mw_420 : Cond.instanceMethod ({ cls := "SpanningProbes", name := "pass", desc := "(I)V" } : MethodName) ∈ zWW := zw_tab (zw_2 (List.mem_of_getElem? (i := 180) rfl)) rfl
theorem mw_421 : Cond.code ({ cls := "SpanningProbes", name := "pass", desc := "(I)V" } : MethodName) prog_1_method_26_code 2 (Option.none : Option Jvm.ClassFile.FieldType) ∈ zWW := zw_tab (zw_2 (List.mem_of_getElem? (i := 181) rfl)) rfl
theorem mw_422 : Cond.methodLink "SpanningProbes" 205 ({ cls := "SpanningProbes$Counters", name := "hit", desc := "(I)V" } : MethodName) ∈ zWW := zw_tab (zw_2 (List.mem_of_getElem? (i := 182) rfl)) rfl
theorem mw_423 : Cond.instanceMethod ({ cls := "SpanningProbes$Counters", name := "hit", desc := "(I)V" } : MethodName) ∈ zWW := zw_tab (zw_2 (List.mem_of_getElem? (i := 183) rfl)) rfl
theorem mw_424 : Cond.selects "SpanningProbes$Counters" ({ cls := "SpanningProbes$Counters", name := "hit", desc := "(I)V" } : MethodName) ({ cls := "SpanningProbes$Counters", name := "hit", desc := "(I)V" } : MethodName) ∈ zWW := zw_tab (zw_2 (List.mem_of_getElem? (i := 184) rfl)) rfl
theorem mw_425 : Cond.code ({ cls := "SpanningProbes$Counters", name := "hit", desc := "(I)V" } : MethodName) prog_2_method_4_code 2 (Option.none : Option Jvm.ClassFile.FieldType) ∈ zWW := zw_tab (zw_2 (List.mem_of_getElem? (i := 185) rfl)) rfl
theorem mw_426 : Cond.methodLink "SpanningProbes" 208 ({ cls := "SpanningProbes", name := "completeWay", desc := "()V" } : MethodName) ∈ zWW := zw_tab (zw_2 (List.mem_of_getElem? (i := 186) rfl)) rfl
theorem mw_428 : Cond.instanceMethod ({ cls := "SpanningProbes", name := "completeWay", desc := "()V" } : MethodName) ∈ zWW := zw_tab (zw_2 (List.mem_of_getElem? (i := 188) rfl)) rfl
theorem mw_429 : Cond.code ({ cls := "SpanningProbes", name := "completeWay", desc := "()V" } : MethodName) prog_1_method_27_code 1 (Option.none : Option Jvm.ClassFile.FieldType) ∈ zWW := zw_tab (zw_2 (List.mem_of_getElem? (i := 189) rfl)) rfl
theorem mw_430 : Cond.methodLink "SpanningProbes" 179 ({ cls := "SpanningProbes", name := "knowsWay", desc := "(I)Z" } : MethodName) ∈ zWW := zw_tab (zw_2 (List.mem_of_getElem? (i := 190) rfl)) rfl
theorem mw_432 : Cond.instanceMethod ({ cls := "SpanningProbes", name := "knowsWay", desc := "(I)Z" } : MethodName) ∈ zWW := zw_tab (zw_2 (List.mem_of_getElem? (i := 192) rfl)) rfl
theorem mw_433 : Cond.code ({ cls := "SpanningProbes", name := "knowsWay", desc := "(I)Z" } : MethodName) prog_1_method_24_code 2 (Option.some FieldType.boolean) ∈ zWW := zw_tab (zw_2 (List.mem_of_getElem? (i := 193) rfl)) rfl
theorem mw_434 : Cond.methodLink "SpanningProbes" 170 ({ cls := "SpanningProbes", name := "endRun", desc := "()V" } : MethodName) ∈ zWW := zw_tab (zw_2 (List.mem_of_getElem? (i := 194) rfl)) rfl
theorem mw_436 : Cond.instanceMethod ({ cls := "SpanningProbes", name := "endRun", desc := "()V" } : MethodName) ∈ zWW := zw_tab (zw_2 (List.mem_of_getElem? (i := 196) rfl)) rfl
theorem mw_437 : Cond.code ({ cls := "SpanningProbes", name := "endRun", desc := "()V" } : MethodName) prog_1_method_28_code 1 (Option.none : Option Jvm.ClassFile.FieldType) ∈ zWW := zw_tab (zw_2 (List.mem_of_getElem? (i := 197) rfl)) rfl
theorem mw_438 : Cond.methodLink "SpanningProbesLaw" 62 ({ cls := "SpanningProbes", name := "walk", desc := "(II)I" } : MethodName) ∈ zWW := zw_tab (zw_2 (List.mem_of_getElem? (i := 198) rfl)) rfl
theorem mw_439 : Cond.instanceMethod ({ cls := "SpanningProbes", name := "walk", desc := "(II)I" } : MethodName) ∈ zWW := zw_tab (zw_2 (List.mem_of_getElem? (i := 199) rfl)) rfl
theorem mw_440 : Cond.selects "SpanningProbes" ({ cls := "SpanningProbes", name := "walk", desc := "(II)I" } : MethodName) ({ cls := "SpanningProbes", name := "walk", desc := "(II)I" } : MethodName) ∈ zWW := zw_tab (zw_2 (List.mem_of_getElem? (i := 200) rfl)) rfl
theorem mw_441 : Cond.code ({ cls := "SpanningProbes", name := "walk", desc := "(II)I" } : MethodName) prog_1_method_11_code 6 (Option.some FieldType.int) ∈ zWW := zw_tab (zw_2 (List.mem_of_getElem? (i := 201) rfl)) rfl
theorem mw_442 : Cond.methodLink "SpanningProbes" 164 ({ cls := "SpanningProbes$Graph", name := "pickFrom", desc := "(II)I" } : MethodName) ∈ zWW := zw_tab (zw_2 (List.mem_of_getElem? (i := 202) rfl)) rfl
theorem mw_443 : Cond.instanceMethod ({ cls := "SpanningProbes$Graph", name := "pickFrom", desc := "(II)I" } : MethodName) ∈ zWW := zw_tab (zw_2 (List.mem_of_getElem? (i := 203) rfl)) rfl
theorem mw_444 : Cond.selects "SpanningProbes$Graph" ({ cls := "SpanningProbes$Graph", name := "pickFrom", desc := "(II)I" } : MethodName) ({ cls := "SpanningProbes$Graph", name := "pickFrom", desc := "(II)I" } : MethodName) ∈ zWW := zw_tab (zw_2 (List.mem_of_getElem? (i := 204) rfl)) rfl
theorem mw_445 : Cond.code ({ cls := "SpanningProbes$Graph", name := "pickFrom", desc := "(II)I" } : MethodName) prog_3_method_6_code 6 (Option.some FieldType.int) ∈ zWW := zw_tab (zw_2 (List.mem_of_getElem? (i := 205) rfl)) rfl
theorem mw_446 : Cond.methodLink "SpanningProbes$Graph" 25 ({ cls := "SpanningProbes$Graph", name := "nextFrom", desc := "(II)I" } : MethodName) ∈ zWW := zw_tab (zw_2 (List.mem_of_getElem? (i := 206) rfl)) rfl
theorem mw_447 : Cond.methodLink "SpanningProbesLaw" 66 ({ cls := "SpanningProbes", name := "stop", desc := "()I" } : MethodName) ∈ zWW := zw_tab (zw_2 (List.mem_of_getElem? (i := 207) rfl)) rfl
theorem mw_448 : Cond.instanceMethod ({ cls := "SpanningProbes", name := "stop", desc := "()I" } : MethodName) ∈ zWW := zw_tab (zw_2 (List.mem_of_getElem? (i := 208) rfl)) rfl
theorem mw_449 : Cond.selects "SpanningProbes" ({ cls := "SpanningProbes", name := "stop", desc := "()I" } : MethodName) ({ cls := "SpanningProbes", name := "stop", desc := "()I" } : MethodName) ∈ zWW := zw_tab (zw_2 (List.mem_of_getElem? (i := 209) rfl)) rfl
theorem mw_450 : Cond.code ({ cls := "SpanningProbes", name := "stop", desc := "()I" } : MethodName) prog_1_method_12_code 2 (Option.some FieldType.int) ∈ zWW := zw_tab (zw_2 (List.mem_of_getElem? (i := 210) rfl)) rfl
theorem mw_451 : Cond.methodLink "SpanningProbesLaw" 70 ({ cls := "SpanningProbes", name := "at", desc := "()I" } : MethodName) ∈ zWW := zw_tab (zw_2 (List.mem_of_getElem? (i := 211) rfl)) rfl
theorem mw_452 : Cond.instanceMethod ({ cls := "SpanningProbes", name := "at", desc := "()I" } : MethodName) ∈ zWW := zw_tab (zw_2 (List.mem_of_getElem? (i := 212) rfl)) rfl
theorem mw_453 : Cond.selects "SpanningProbes" ({ cls := "SpanningProbes", name := "at", desc := "()I" } : MethodName) ({ cls := "SpanningProbes", name := "at", desc := "()I" } : MethodName) ∈ zWW := zw_tab (zw_2 (List.mem_of_getElem? (i := 213) rfl)) rfl
theorem mw_454 : Cond.code ({ cls := "SpanningProbes", name := "at", desc := "()I" } : MethodName) prog_1_method_13_code 1 (Option.some FieldType.int) ∈ zWW := zw_tab (zw_2 (List.mem_of_getElem? (i := 214) rfl)) rfl
theorem mw_455 : Cond.methodLink "SpanningProbesLaw" 74 ({ cls := "SpanningProbes", name := "register", desc := "()I" } : MethodName) ∈ zWW := zw_tab (zw_2 (List.mem_of_getElem? (i := 215) rfl)) rfl
theorem mw_456 : Cond.instanceMethod ({ cls := "SpanningProbes", name := "register", desc := "()I" } : MethodName) ∈ zWW := zw_tab (zw_2 (List.mem_of_getElem? (i := 216) rfl)) rfl
theorem mw_457 : Cond.selects "SpanningProbes" ({ cls := "SpanningProbes", name := "register", desc := "()I" } : MethodName) ({ cls := "SpanningProbes", name := "register", desc := "()I" } : MethodName) ∈ zWW := zw_tab (zw_2 (List.mem_of_getElem? (i := 217) rfl)) rfl
theorem mw_458 : Cond.code ({ cls := "SpanningProbes", name := "register", desc := "()I" } : MethodName) prog_1_method_14_code 1 (Option.some FieldType.int) ∈ zWW := zw_tab (zw_2 (List.mem_of_getElem? (i := 218) rfl)) rfl
theorem mw_459 : Cond.methodLink "SpanningProbesLaw" 78 ({ cls := "SpanningProbes", name := "count", desc := "(I)I" } : MethodName) ∈ zWW := zw_tab (zw_2 (List.mem_of_getElem? (i := 219) rfl)) rfl
theorem mw_460 : Cond.instanceMethod ({ cls := "SpanningProbes", name := "count", desc := "(I)I" } : MethodName) ∈ zWW := zw_tab (zw_2 (List.mem_of_getElem? (i := 220) rfl)) rfl
theorem mw_461 : Cond.selects "SpanningProbes" ({ cls := "SpanningProbes", name := "count", desc := "(I)I" } : MethodName) ({ cls := "SpanningProbes", name := "count", desc := "(I)I" } : MethodName) ∈ zWW := zw_tab (zw_2 (List.mem_of_getElem? (i := 221) rfl)) rfl
theorem mw_462 : Cond.code ({ cls := "SpanningProbes", name := "count", desc := "(I)I" } : MethodName) prog_1_method_15_code 2 (Option.some FieldType.int) ∈ zWW := zw_tab (zw_2 (List.mem_of_getElem? (i := 222) rfl)) rfl
theorem mw_463 : Cond.methodLink "SpanningProbes" 173 ({ cls := "SpanningProbes$Counters", name := "passesOf", desc := "(II)I" } : MethodName) ∈ zWW := zw_tab (zw_2 (List.mem_of_getElem? (i := 223) rfl)) rfl
theorem mw_464 : Cond.instanceMethod ({ cls := "SpanningProbes$Counters", name := "passesOf", desc := "(II)I" } : MethodName) ∈ zWW := zw_tab (zw_2 (List.mem_of_getElem? (i := 224) rfl)) rfl
theorem mw_465 : Cond.selects "SpanningProbes$Counters" ({ cls := "SpanningProbes$Counters", name := "passesOf", desc := "(II)I" } : MethodName) ({ cls := "SpanningProbes$Counters", name := "passesOf", desc := "(II)I" } : MethodName) ∈ zWW := zw_tab (zw_2 (List.mem_of_getElem? (i := 225) rfl)) rfl
theorem mw_466 : Cond.code ({ cls := "SpanningProbes$Counters", name := "passesOf", desc := "(II)I" } : MethodName) prog_2_method_5_code 4 (Option.some FieldType.int) ∈ zWW := zw_tab (zw_2 (List.mem_of_getElem? (i := 226) rfl)) rfl
theorem mw_467 : Cond.methodLink "SpanningProbes$Counters" 54 ({ cls := "SpanningProbes$Counters", name := "runsLeftIn", desc := "(II)I" } : MethodName) ∈ zWW := zw_tab (zw_2 (List.mem_of_getElem? (i := 227) rfl)) rfl
theorem mw_469 : Cond.instanceMethod ({ cls := "SpanningProbes$Counters", name := "runsLeftIn", desc := "(II)I" } : MethodName) ∈ zWW := zw_tab (zw_2 (List.mem_of_getElem? (i := 229) rfl)) rfl
theorem mw_470 : Cond.code ({ cls := "SpanningProbes$Counters", name := "runsLeftIn", desc := "(II)I" } : MethodName) prog_2_method_6_code 5 (Option.some FieldType.int) ∈ zWW := zw_tab (zw_2 (List.mem_of_getElem? (i := 230) rfl)) rfl
theorem mn_471 : Cond.methodLinkNest "SpanningProbes$Counters" 64 ({ cls := "SpanningProbes", name := "isIn", desc := "(II)Z" } : MethodName) "SpanningProbes" ∈ tables_1 := zw_2 (List.mem_of_getElem? (i := 231) rfl)
theorem mw_472 : Cond.methodLink "SpanningProbes$Counters" 58 ({ cls := "SpanningProbes$Counters", name := "hitsOutOf", desc := "(I)I" } : MethodName) ∈ zWW := zw_tab (zw_2 (List.mem_of_getElem? (i := 232) rfl)) rfl
theorem mw_474 : Cond.instanceMethod ({ cls := "SpanningProbes$Counters", name := "hitsOutOf", desc := "(I)I" } : MethodName) ∈ zWW := zw_tab (zw_2 (List.mem_of_getElem? (i := 234) rfl)) rfl
theorem mw_475 : Cond.code ({ cls := "SpanningProbes$Counters", name := "hitsOutOf", desc := "(I)I" } : MethodName) prog_2_method_7_code 4 (Option.some FieldType.int) ∈ zWW := zw_tab (zw_2 (List.mem_of_getElem? (i := 235) rfl)) rfl
theorem mw_476 : Cond.methodLink "SpanningProbesLaw" 82 ({ cls := "SpanningProbes", name := "visits", desc := "(I)I" } : MethodName) ∈ zWW := zw_tab (zw_2 (List.mem_of_getElem? (i := 236) rfl)) rfl
theorem mw_477 : Cond.instanceMethod ({ cls := "SpanningProbes", name := "visits", desc := "(I)I" } : MethodName) ∈ zWW := zw_tab (zw_2 (List.mem_of_getElem? (i := 237) rfl)) rfl
theorem mw_478 : Cond.selects "SpanningProbes" ({ cls := "SpanningProbes", name := "visits", desc := "(I)I" } : MethodName) ({ cls := "SpanningProbes", name := "visits", desc := "(I)I" } : MethodName) ∈ zWW := zw_tab (zw_2 (List.mem_of_getElem? (i := 238) rfl)) rfl
theorem mw_479 : Cond.code ({ cls := "SpanningProbes", name := "visits", desc := "(I)I" } : MethodName) prog_1_method_16_code 2 (Option.some FieldType.int) ∈ zWW := zw_tab (zw_2 (List.mem_of_getElem? (i := 239) rfl)) rfl
theorem mw_480 : Cond.methodLink "SpanningProbes" 176 ({ cls := "SpanningProbes$Counters", name := "visitsOf", desc := "(II)I" } : MethodName) ∈ zWW := zw_tab (zw_3 (List.mem_of_getElem? (i := 0) rfl)) rfl
theorem mw_481 : Cond.instanceMethod ({ cls := "SpanningProbes$Counters", name := "visitsOf", desc := "(II)I" } : MethodName) ∈ zWW := zw_tab (zw_3 (List.mem_of_getElem? (i := 1) rfl)) rfl
theorem mw_482 : Cond.selects "SpanningProbes$Counters" ({ cls := "SpanningProbes$Counters", name := "visitsOf", desc := "(II)I" } : MethodName) ({ cls := "SpanningProbes$Counters", name := "visitsOf", desc := "(II)I" } : MethodName) ∈ zWW := zw_tab (zw_3 (List.mem_of_getElem? (i := 2) rfl)) rfl
theorem mw_483 : Cond.code ({ cls := "SpanningProbes$Counters", name := "visitsOf", desc := "(II)I" } : MethodName) prog_2_method_8_code 3 (Option.some FieldType.int) ∈ zWW := zw_tab (zw_3 (List.mem_of_getElem? (i := 3) rfl)) rfl
theorem mw_484 : Cond.methodLink "SpanningProbes$Counters" 74 ({ cls := "SpanningProbes$Counters", name := "passesInto", desc := "(II)I" } : MethodName) ∈ zWW := zw_tab (zw_3 (List.mem_of_getElem? (i := 4) rfl)) rfl
theorem mw_486 : Cond.instanceMethod ({ cls := "SpanningProbes$Counters", name := "passesInto", desc := "(II)I" } : MethodName) ∈ zWW := zw_tab (zw_3 (List.mem_of_getElem? (i := 6) rfl)) rfl
theorem mw_487 : Cond.code ({ cls := "SpanningProbes$Counters", name := "passesInto", desc := "(II)I" } : MethodName) prog_2_method_9_code 5 (Option.some FieldType.int) ∈ zWW := zw_tab (zw_3 (List.mem_of_getElem? (i := 7) rfl)) rfl
theorem mw_488 : Cond.methodLink "SpanningProbes$Counters" 81 ({ cls := "SpanningProbes$Counters", name := "passesOf", desc := "(II)I" } : MethodName) ∈ zWW := zw_tab (zw_3 (List.mem_of_getElem? (i := 8) rfl)) rfl
theorem mw_489 : Cond.methodLink "SpanningProbes$Counters" 77 ({ cls := "SpanningProbes$Graph", name := "allBlocks", desc := "()I" } : MethodName) ∈ zWW := zw_tab (zw_3 (List.mem_of_getElem? (i := 9) rfl)) rfl
theorem mw_490 : Cond.methodLink "SpanningProbesLaw" 86 ({ cls := "SpanningProbes", name := "passed", desc := "(I)I" } : MethodName) ∈ zWW := zw_tab (zw_3 (List.mem_of_getElem? (i := 10) rfl)) rfl
theorem mw_491 : Cond.instanceMethod ({ cls := "SpanningProbes", name := "passed", desc := "(I)I" } : MethodName) ∈ zWW := zw_tab (zw_3 (List.mem_of_getElem? (i := 11) rfl)) rfl
theorem mw_492 : Cond.selects "SpanningProbes" ({ cls := "SpanningProbes", name := "passed", desc := "(I)I" } : MethodName) ({ cls := "SpanningProbes", name := "passed", desc := "(I)I" } : MethodName) ∈ zWW := zw_tab (zw_3 (List.mem_of_getElem? (i := 12) rfl)) rfl
theorem mw_493 : Cond.code ({ cls := "SpanningProbes", name := "passed", desc := "(I)I" } : MethodName) prog_1_method_17_code 2 (Option.some FieldType.int) ∈ zWW := zw_tab (zw_3 (List.mem_of_getElem? (i := 13) rfl)) rfl
theorem mw_494 : Cond.methodLink "SpanningProbesLaw" 90 ({ cls := "SpanningProbes", name := "along", desc := "(II)I" } : MethodName) ∈ zWW := zw_tab (zw_3 (List.mem_of_getElem? (i := 14) rfl)) rfl
theorem mw_495 : Cond.instanceMethod ({ cls := "SpanningProbes", name := "along", desc := "(II)I" } : MethodName) ∈ zWW := zw_tab (zw_3 (List.mem_of_getElem? (i := 15) rfl)) rfl
theorem mw_496 : Cond.selects "SpanningProbes" ({ cls := "SpanningProbes", name := "along", desc := "(II)I" } : MethodName) ({ cls := "SpanningProbes", name := "along", desc := "(II)I" } : MethodName) ∈ zWW := zw_tab (zw_3 (List.mem_of_getElem? (i := 16) rfl)) rfl
theorem mw_497 : Cond.code ({ cls := "SpanningProbes", name := "along", desc := "(II)I" } : MethodName) prog_1_method_18_code 4 (Option.some FieldType.int) ∈ zWW := zw_tab (zw_3 (List.mem_of_getElem? (i := 17) rfl)) rfl
theorem mw_498 : Cond.methodLink "SpanningProbes" 185 ({ cls := "SpanningProbes$Links", name := "startOfWay", desc := "(I)I" } : MethodName) ∈ zWW := zw_tab (zw_3 (List.mem_of_getElem? (i := 18) rfl)) rfl
theorem mw_499 : Cond.instanceMethod ({ cls := "SpanningProbes$Links", name := "startOfWay", desc := "(I)I" } : MethodName) ∈ zWW := zw_tab (zw_3 (List.mem_of_getElem? (i := 19) rfl)) rfl
theorem mw_500 : Cond.selects "SpanningProbes$Links" ({ cls := "SpanningProbes$Links", name := "startOfWay", desc := "(I)I" } : MethodName) ({ cls := "SpanningProbes$Links", name := "startOfWay", desc := "(I)I" } : MethodName) ∈ zWW := zw_tab (zw_3 (List.mem_of_getElem? (i := 20) rfl)) rfl
theorem mw_501 : Cond.code ({ cls := "SpanningProbes$Links", name := "startOfWay", desc := "(I)I" } : MethodName) prog_4_method_11_code 4 (Option.some FieldType.int) ∈ zWW := zw_tab (zw_3 (List.mem_of_getElem? (i := 21) rfl)) rfl
theorem mw_502 : Cond.methodLink "SpanningProbes" 188 ({ cls := "SpanningProbes$Links", name := "edgeOfWay", desc := "(III)I" } : MethodName) ∈ zWW := zw_tab (zw_3 (List.mem_of_getElem? (i := 22) rfl)) rfl
theorem mw_503 : Cond.instanceMethod ({ cls := "SpanningProbes$Links", name := "edgeOfWay", desc := "(III)I" } : MethodName) ∈ zWW := zw_tab (zw_3 (List.mem_of_getElem? (i := 23) rfl)) rfl
theorem mw_504 : Cond.selects "SpanningProbes$Links" ({ cls := "SpanningProbes$Links", name := "edgeOfWay", desc := "(III)I" } : MethodName) ({ cls := "SpanningProbes$Links", name := "edgeOfWay", desc := "(III)I" } : MethodName) ∈ zWW := zw_tab (zw_3 (List.mem_of_getElem? (i := 24) rfl)) rfl
theorem mw_505 : Cond.code ({ cls := "SpanningProbes$Links", name := "edgeOfWay", desc := "(III)I" } : MethodName) prog_4_method_12_code 8 (Option.some FieldType.int) ∈ zWW := zw_tab (zw_3 (List.mem_of_getElem? (i := 25) rfl)) rfl
theorem mw_506 : Cond.methodLink "SpanningProbes$Links" 103 ({ cls := "SpanningProbes$Links", name := "linkFrom", desc := "(II)I" } : MethodName) ∈ zWW := zw_tab (zw_3 (List.mem_of_getElem? (i := 26) rfl)) rfl
theorem mw_508 : Cond.instanceMethod ({ cls := "SpanningProbes$Links", name := "linkFrom", desc := "(II)I" } : MethodName) ∈ zWW := zw_tab (zw_3 (List.mem_of_getElem? (i := 28) rfl)) rfl
theorem mw_509 : Cond.code ({ cls := "SpanningProbes$Links", name := "linkFrom", desc := "(II)I" } : MethodName) prog_4_method_13_code 5 (Option.some FieldType.int) ∈ zWW := zw_tab (zw_3 (List.mem_of_getElem? (i := 29) rfl)) rfl
theorem mw_510 : Cond.constant "SpanningProbes$Links" 106 (-2147483648 : Int32) ∈ zWW := zw_tab (zw_3 (List.mem_of_getElem? (i := 30) rfl)) rfl
theorem mw_511 : Cond.methodLink "SpanningProbesLaw" 94 ({ cls := "SpanningProbes", name := "stopped", desc := "(I)I" } : MethodName) ∈ zWW := zw_tab (zw_3 (List.mem_of_getElem? (i := 31) rfl)) rfl
theorem mw_512 : Cond.instanceMethod ({ cls := "SpanningProbes", name := "stopped", desc := "(I)I" } : MethodName) ∈ zWW := zw_tab (zw_3 (List.mem_of_getElem? (i := 32) rfl)) rfl
theorem mw_513 : Cond.selects "SpanningProbes" ({ cls := "SpanningProbes", name := "stopped", desc := "(I)I" } : MethodName) ({ cls := "SpanningProbes", name := "stopped", desc := "(I)I" } : MethodName) ∈ zWW := zw_tab (zw_3 (List.mem_of_getElem? (i := 33) rfl)) rfl
theorem mw_514 : Cond.code ({ cls := "SpanningProbes", name := "stopped", desc := "(I)I" } : MethodName) prog_1_method_19_code 2 (Option.some FieldType.int) ∈ zWW := zw_tab (zw_3 (List.mem_of_getElem? (i := 34) rfl)) rfl
theorem mw_515 : Cond.methodLink "SpanningProbesLaw" 98 ({ cls := "SpanningProbes", name := "covered", desc := "(I)I" } : MethodName) ∈ zWW := zw_tab (zw_3 (List.mem_of_getElem? (i := 35) rfl)) rfl
theorem mw_516 : Cond.instanceMethod ({ cls := "SpanningProbes", name := "covered", desc := "(I)I" } : MethodName) ∈ zWW := zw_tab (zw_3 (List.mem_of_getElem? (i := 36) rfl)) rfl
theorem mw_517 : Cond.selects "SpanningProbes" ({ cls := "SpanningProbes", name := "covered", desc := "(I)I" } : MethodName) ({ cls := "SpanningProbes", name := "covered", desc := "(I)I" } : MethodName) ∈ zWW := zw_tab (zw_3 (List.mem_of_getElem? (i := 37) rfl)) rfl
theorem mw_518 : Cond.code ({ cls := "SpanningProbes", name := "covered", desc := "(I)I" } : MethodName) prog_1_method_20_code 2 (Option.some FieldType.int) ∈ zWW := zw_tab (zw_3 (List.mem_of_getElem? (i := 38) rfl)) rfl
theorem mw_519 : Cond.methodLink "SpanningProbes" 192 ({ cls := "SpanningProbes$Counters", name := "blocksVisited", desc := "(I)I" } : MethodName) ∈ zWW := zw_tab (zw_3 (List.mem_of_getElem? (i := 39) rfl)) rfl
theorem mw_520 : Cond.instanceMethod ({ cls := "SpanningProbes$Counters", name := "blocksVisited", desc := "(I)I" } : MethodName) ∈ zWW := zw_tab (zw_3 (List.mem_of_getElem? (i := 40) rfl)) rfl
theorem mw_521 : Cond.selects "SpanningProbes$Counters" ({ cls := "SpanningProbes$Counters", name := "blocksVisited", desc := "(I)I" } : MethodName) ({ cls := "SpanningProbes$Counters", name := "blocksVisited", desc := "(I)I" } : MethodName) ∈ zWW := zw_tab (zw_3 (List.mem_of_getElem? (i := 41) rfl)) rfl
theorem mw_522 : Cond.code ({ cls := "SpanningProbes$Counters", name := "blocksVisited", desc := "(I)I" } : MethodName) prog_2_method_10_code 4 (Option.some FieldType.int) ∈ zWW := zw_tab (zw_3 (List.mem_of_getElem? (i := 42) rfl)) rfl
theorem mw_523 : Cond.methodLink "SpanningProbes$Counters" 84 ({ cls := "SpanningProbes$Counters", name := "visitsOf", desc := "(II)I" } : MethodName) ∈ zWW := zw_tab (zw_3 (List.mem_of_getElem? (i := 43) rfl)) rfl
theorem mw_524 : Cond.methodLink "SpanningProbes" 195 ({ cls := "SpanningProbes$Counters", name := "edgesPassed", desc := "(I)I" } : MethodName) ∈ zWW := zw_tab (zw_3 (List.mem_of_getElem? (i := 44) rfl)) rfl
theorem mw_525 : Cond.instanceMethod ({ cls := "SpanningProbes$Counters", name := "edgesPassed", desc := "(I)I" } : MethodName) ∈ zWW := zw_tab (zw_3 (List.mem_of_getElem? (i := 45) rfl)) rfl
theorem mw_526 : Cond.selects "SpanningProbes$Counters" ({ cls := "SpanningProbes$Counters", name := "edgesPassed", desc := "(I)I" } : MethodName) ({ cls := "SpanningProbes$Counters", name := "edgesPassed", desc := "(I)I" } : MethodName) ∈ zWW := zw_tab (zw_3 (List.mem_of_getElem? (i := 46) rfl)) rfl
theorem mw_527 : Cond.code ({ cls := "SpanningProbes$Counters", name := "edgesPassed", desc := "(I)I" } : MethodName) prog_2_method_11_code 4 (Option.some FieldType.int) ∈ zWW := zw_tab (zw_3 (List.mem_of_getElem? (i := 47) rfl)) rfl
theorem mw_528 : Cond.methodLink "SpanningProbes" 198 ({ cls := "SpanningProbes$Counters", name := "waysCompleted", desc := "()I" } : MethodName) ∈ zWW := zw_tab (zw_3 (List.mem_of_getElem? (i := 48) rfl)) rfl
theorem mw_529 : Cond.instanceMethod ({ cls := "SpanningProbes$Counters", name := "waysCompleted", desc := "()I" } : MethodName) ∈ zWW := zw_tab (zw_3 (List.mem_of_getElem? (i := 49) rfl)) rfl
theorem mw_530 : Cond.selects "SpanningProbes$Counters" ({ cls := "SpanningProbes$Counters", name := "waysCompleted", desc := "()I" } : MethodName) ({ cls := "SpanningProbes$Counters", name := "waysCompleted", desc := "()I" } : MethodName) ∈ zWW := zw_tab (zw_3 (List.mem_of_getElem? (i := 50) rfl)) rfl
theorem mw_531 : Cond.code ({ cls := "SpanningProbes$Counters", name := "waysCompleted", desc := "()I" } : MethodName) prog_2_method_12_code 3 (Option.some FieldType.int) ∈ zWW := zw_tab (zw_3 (List.mem_of_getElem? (i := 51) rfl)) rfl
theorem mw_532 : Cond.methodLink "SpanningProbesLaw" 102 ({ cls := "SpanningProbes", name := "clear", desc := "()V" } : MethodName) ∈ zWW := zw_tab (zw_3 (List.mem_of_getElem? (i := 52) rfl)) rfl
theorem mw_533 : Cond.instanceMethod ({ cls := "SpanningProbes", name := "clear", desc := "()V" } : MethodName) ∈ zWW := zw_tab (zw_3 (List.mem_of_getElem? (i := 53) rfl)) rfl
theorem mw_534 : Cond.selects "SpanningProbes" ({ cls := "SpanningProbes", name := "clear", desc := "()V" } : MethodName) ({ cls := "SpanningProbes", name := "clear", desc := "()V" } : MethodName) ∈ zWW := zw_tab (zw_3 (List.mem_of_getElem? (i := 54) rfl)) rfl
theorem mw_535 : Cond.code ({ cls := "SpanningProbes", name := "clear", desc := "()V" } : MethodName) prog_1_method_21_code 1 (Option.none : Option Jvm.ClassFile.FieldType) ∈ zWW := zw_tab (zw_3 (List.mem_of_getElem? (i := 55) rfl)) rfl
theorem mw_536 : Cond.methodLink "SpanningProbes" 202 ({ cls := "SpanningProbes$Counters", name := "forget", desc := "()V" } : MethodName) ∈ zWW := zw_tab (zw_3 (List.mem_of_getElem? (i := 56) rfl)) rfl
theorem mw_537 : Cond.instanceMethod ({ cls := "SpanningProbes$Counters", name := "forget", desc := "()V" } : MethodName) ∈ zWW := zw_tab (zw_3 (List.mem_of_getElem? (i := 57) rfl)) rfl
theorem mw_538 : Cond.selects "SpanningProbes$Counters" ({ cls := "SpanningProbes$Counters", name := "forget", desc := "()V" } : MethodName) ({ cls := "SpanningProbes$Counters", name := "forget", desc := "()V" } : MethodName) ∈ zWW := zw_tab (zw_3 (List.mem_of_getElem? (i := 58) rfl)) rfl
theorem mw_539 : Cond.code ({ cls := "SpanningProbes$Counters", name := "forget", desc := "()V" } : MethodName) prog_2_method_2_code 1 (Option.none : Option Jvm.ClassFile.FieldType) ∈ zWW := zw_tab (zw_3 (List.mem_of_getElem? (i := 59) rfl)) rfl
theorem mw_540 : Cond.methodLink "SpanningProbes$Counters" 32 ({ cls := "java/util/Arrays", name := "fill", desc := "([II)V" } : MethodName) ∈ zWW := zw_tab (zw_3 (List.mem_of_getElem? (i := 60) rfl)) rfl
theorem mw_541 : Cond.static ({ cls := "java/util/Arrays", name := "fill", desc := "([II)V" } : MethodName) ∈ zWW := zw_tab (zw_3 (List.mem_of_getElem? (i := 61) rfl)) rfl
theorem mw_542 : Cond.code ({ cls := "java/util/Arrays", name := "fill", desc := "([II)V" } : MethodName) prog_11_method_103_code 4 (Option.none : Option Jvm.ClassFile.FieldType) ∈ zWW := zw_tab (zw_3 (List.mem_of_getElem? (i := 62) rfl)) rfl
theorem mw_543 : Cond.methodLink "SpanningProbesLaw" 9 ({ cls := "SpanningProbesLaw", name := "cell", desc := "([II)I" } : MethodName) ∈ zWW := zw_tab (zw_3 (List.mem_of_getElem? (i := 63) rfl)) rfl
theorem mw_544 : Cond.static ({ cls := "SpanningProbesLaw", name := "cell", desc := "([II)I" } : MethodName) ∈ zWW := zw_tab (zw_3 (List.mem_of_getElem? (i := 64) rfl)) rfl
theorem mw_545 : Cond.code ({ cls := "SpanningProbesLaw", name := "cell", desc := "([II)I" } : MethodName) method_2_code 2 (Option.some FieldType.int) ∈ zWW := zw_tab (zw_3 (List.mem_of_getElem? (i := 65) rfl)) rfl
theorem mw_546 : Cond.classLink "SpanningProbesLaw" 18 "SpanningProbesModel" ∈ zWW := zw_tab (zw_3 (List.mem_of_getElem? (i := 66) rfl)) rfl
theorem mw_547 : Cond.instantiable "SpanningProbesModel" 38 ∈ zWW := zw_tab (zw_3 (List.mem_of_getElem? (i := 67) rfl)) rfl
theorem mw_548 : Cond.methodLink "SpanningProbesLaw" 20 ({ cls := "SpanningProbesModel", name := "<init>", desc := "(I)V" } : MethodName) ∈ zWW := zw_tab (zw_3 (List.mem_of_getElem? (i := 68) rfl)) rfl
theorem mw_549 : Cond.instanceMethod ({ cls := "SpanningProbesModel", name := "<init>", desc := "(I)V" } : MethodName) ∈ zWW := zw_tab (zw_3 (List.mem_of_getElem? (i := 69) rfl)) rfl
theorem mw_550 : Cond.code ({ cls := "SpanningProbesModel", name := "<init>", desc := "(I)V" } : MethodName) prog_9_method_1_code 2 (Option.none : Option Jvm.ClassFile.FieldType) ∈ zWW := zw_tab (zw_3 (List.mem_of_getElem? (i := 70) rfl)) rfl
theorem mw_551 : Cond.methodLink "SpanningProbesModel" 1 ({ cls := "java/lang/Object", name := "<init>", desc := "()V" } : MethodName) ∈ zWW := zw_tab (zw_3 (List.mem_of_getElem? (i := 71) rfl)) rfl
theorem mw_552 : Cond.fieldLink "SpanningProbesModel" 92 "SpanningProbesModel" "n" "I" ∈ zWW := zw_tab (zw_3 (List.mem_of_getElem? (i := 72) rfl)) rfl
theorem mw_553 : Cond.fieldLink "SpanningProbesModel" 100 "SpanningProbesModel" "m" "I" ∈ zWW := zw_tab (zw_3 (List.mem_of_getElem? (i := 73) rfl)) rfl
theorem mw_554 : Cond.fieldLink "SpanningProbesModel" 7 "SpanningProbesModel" "from" "[I" ∈ zWW := zw_tab (zw_3 (List.mem_of_getElem? (i := 74) rfl)) rfl
theorem mw_555 : Cond.fieldLink "SpanningProbesModel" 13 "SpanningProbesModel" "to" "[I" ∈ zWW := zw_tab (zw_3 (List.mem_of_getElem? (i := 75) rfl)) rfl
theorem mw_556 : Cond.fieldLink "SpanningProbesModel" 96 "SpanningProbesModel" "sealed" "Z" ∈ zWW := zw_tab (zw_3 (List.mem_of_getElem? (i := 76) rfl)) rfl
theorem mw_557 : Cond.fieldLink "SpanningProbesModel" 16 "SpanningProbesModel" "met" "[I" ∈ zWW := zw_tab (zw_3 (List.mem_of_getElem? (i := 77) rfl)) rfl
theorem mw_558 : Cond.fieldLink "SpanningProbesModel" 19 "SpanningProbesModel" "nextEdge" "[I" ∈ zWW := zw_tab (zw_3 (List.mem_of_getElem? (i := 78) rfl)) rfl
theorem mw_559 : Cond.fieldLink "SpanningProbesModel" 22 "SpanningProbesModel" "path" "[I" ∈ zWW := zw_tab (zw_3 (List.mem_of_getElem? (i := 79) rfl)) rfl
theorem mw_560 : Cond.fieldLink "SpanningProbesModel" 25 "SpanningProbesModel" "isBack" "[Z" ∈ zWW := zw_tab (zw_3 (List.mem_of_getElem? (i := 80) rfl)) rfl
theorem mw_561 : Cond.fieldLink "SpanningProbesModel" 29 "SpanningProbesModel" "mark" "[Z" ∈ zWW := zw_tab (zw_3 (List.mem_of_getElem? (i := 81) rfl)) rfl
theorem mw_562 : Cond.fieldLink "SpanningProbesModel" 32 "SpanningProbesModel" "depths" "[I" ∈ zWW := zw_tab (zw_3 (List.mem_of_getElem? (i := 82) rfl)) rfl
theorem mw_563 : Cond.fieldLink "SpanningProbesModel" 35 "SpanningProbesModel" "sorted" "[I" ∈ zWW := zw_tab (zw_3 (List.mem_of_getElem? (i := 83) rfl)) rfl
theorem mw_564 : Cond.fieldLink "SpanningProbesModel" 38 "SpanningProbesModel" "inTree" "[Z" ∈ zWW := zw_tab (zw_3 (List.mem_of_getElem? (i := 84) rfl)) rfl
theorem mw_565 : Cond.fieldLink "SpanningProbesModel" 41 "SpanningProbesModel" "isLink" "[Z" ∈ zWW := zw_tab (zw_3 (List.mem_of_getElem? (i := 85) rfl)) rfl
theorem mw_566 : Cond.fieldLink "SpanningProbesModel" 44 "SpanningProbesModel" "linkFrom" "[I" ∈ zWW := zw_tab (zw_3 (List.mem_of_getElem? (i := 86) rfl)) rfl
theorem mw_567 : Cond.fieldLink "SpanningProbesModel" 47 "SpanningProbesModel" "linkTo" "[I" ∈ zWW := zw_tab (zw_3 (List.mem_of_getElem? (i := 87) rfl)) rfl
theorem mw_568 : Cond.fieldLink "SpanningProbesModel" 50 "SpanningProbesModel" "rows" "[I" ∈ zWW := zw_tab (zw_3 (List.mem_of_getElem? (i := 88) rfl)) rfl
theorem mw_569 : Cond.fieldLink "SpanningProbesModel" 53 "SpanningProbesModel" "linkInTree" "[Z" ∈ zWW := zw_tab (zw_3 (List.mem_of_getElem? (i := 89) rfl)) rfl
theorem mw_570 : Cond.fieldLink "SpanningProbesModel" 56 "SpanningProbesModel" "based" "[Z" ∈ zWW := zw_tab (zw_3 (List.mem_of_getElem? (i := 90) rfl)) rfl
theorem mw_571 : Cond.fieldLink "SpanningProbesModel" 59 "SpanningProbesModel" "base" "[I" ∈ zWW := zw_tab (zw_3 (List.mem_of_getElem? (i := 91) rfl)) rfl
theorem mw_572 : Cond.fieldLink "SpanningProbesModel" 118 "SpanningProbesModel" "pairs" "I" ∈ zWW := zw_tab (zw_3 (List.mem_of_getElem? (i := 92) rfl)) rfl
theorem mw_573 : Cond.fieldLink "SpanningProbesModel" 62 "SpanningProbesModel" "pairA" "[I" ∈ zWW := zw_tab (zw_3 (List.mem_of_getElem? (i := 93) rfl)) rfl
theorem mw_574 : Cond.fieldLink "SpanningProbesModel" 65 "SpanningProbesModel" "pairB" "[I" ∈ zWW := zw_tab (zw_3 (List.mem_of_getElem? (i := 94) rfl)) rfl
theorem mw_575 : Cond.fieldLink "SpanningProbesModel" 144 "SpanningProbesModel" "ways" "I" ∈ zWW := zw_tab (zw_3 (List.mem_of_getElem? (i := 95) rfl)) rfl
theorem mw_576 : Cond.fieldLink "SpanningProbesModel" 68 "SpanningProbesModel" "wayLength" "[I" ∈ zWW := zw_tab (zw_3 (List.mem_of_getElem? (i := 96) rfl)) rfl
theorem mw_577 : Cond.fieldLink "SpanningProbesModel" 71 "SpanningProbesModel" "wayLinks" "[I" ∈ zWW := zw_tab (zw_3 (List.mem_of_getElem? (i := 97) rfl)) rfl
theorem mw_578 : Cond.fieldLink "SpanningProbesModel" 135 "SpanningProbesModel" "found" "I" ∈ zWW := zw_tab (zw_3 (List.mem_of_getElem? (i := 98) rfl)) rfl
theorem mw_579 : Cond.fieldLink "SpanningProbesModel" 74 "SpanningProbesModel" "trial" "[I" ∈ zWW := zw_tab (zw_3 (List.mem_of_getElem? (i := 99) rfl)) rfl
theorem mw_580 : Cond.fieldLink "SpanningProbesModel" 182 "SpanningProbesModel" "running" "Z" ∈ zWW := zw_tab (zw_3 (List.mem_of_getElem? (i := 100) rfl)) rfl
theorem mw_581 : Cond.fieldLink "SpanningProbesModel" 185 "SpanningProbesModel" "place" "I" ∈ zWW := zw_tab (zw_3 (List.mem_of_getElem? (i := 101) rfl)) rfl
theorem mw_582 : Cond.fieldLink "SpanningProbesModel" 188 "SpanningProbesModel" "passedLinks" "I" ∈ zWW := zw_tab (zw_3 (List.mem_of_getElem? (i := 102) rfl)) rfl
theorem mw_583 : Cond.fieldLink "SpanningProbesModel" 77 "SpanningProbesModel" "trace" "[I" ∈ zWW := zw_tab (zw_3 (List.mem_of_getElem? (i := 103) rfl)) rfl
theorem mw_584 : Cond.fieldLink "SpanningProbesModel" 80 "SpanningProbesModel" "edgeCount" "[I" ∈ zWW := zw_tab (zw_3 (List.mem_of_getElem? (i := 104) rfl)) rfl
theorem mw_585 : Cond.fieldLink "SpanningProbesModel" 83 "SpanningProbesModel" "blockCount" "[I" ∈ zWW := zw_tab (zw_3 (List.mem_of_getElem? (i := 105) rfl)) rfl
theorem mw_586 : Cond.fieldLink "SpanningProbesModel" 86 "SpanningProbesModel" "wayCount" "[I" ∈ zWW := zw_tab (zw_3 (List.mem_of_getElem? (i := 106) rfl)) rfl
theorem mw_587 : Cond.fieldLink "SpanningProbesModel" 89 "SpanningProbesModel" "stopCount" "[I" ∈ zWW := zw_tab (zw_3 (List.mem_of_getElem? (i := 107) rfl)) rfl
theorem mw_588 : Cond.fieldLink "SpanningProbesModel" 191 "SpanningProbesModel" "runs" "I" ∈ zWW := zw_tab (zw_3 (List.mem_of_getElem? (i := 108) rfl)) rfl
theorem mw_589 : Cond.fieldLink "SpanningProbesModel" 200 "SpanningProbesModel" "ends" "I" ∈ zWW := zw_tab (zw_3 (List.mem_of_getElem? (i := 109) rfl)) rfl
theorem mw_590 : Cond.lays "SpanningProbesModel" "SpanningProbesModel" "n" "I" ∈ zWW := zw_tab (zw_3 (List.mem_of_getElem? (i := 110) rfl)) rfl
theorem mw_592 : Cond.lays "SpanningProbesModel" "SpanningProbesModel" "m" "I" ∈ zWW := zw_tab (zw_3 (List.mem_of_getElem? (i := 112) rfl)) rfl
theorem mw_594 : Cond.lays "SpanningProbesModel" "SpanningProbesModel" "from" "[I" ∈ zWW := zw_tab (zw_3 (List.mem_of_getElem? (i := 114) rfl)) rfl
theorem mw_596 : Cond.lays "SpanningProbesModel" "SpanningProbesModel" "to" "[I" ∈ zWW := zw_tab (zw_3 (List.mem_of_getElem? (i := 116) rfl)) rfl
theorem mw_598 : Cond.lays "SpanningProbesModel" "SpanningProbesModel" "sealed" "Z" ∈ zWW := zw_tab (zw_3 (List.mem_of_getElem? (i := 118) rfl)) rfl
theorem mw_600 : Cond.lays "SpanningProbesModel" "SpanningProbesModel" "met" "[I" ∈ zWW := zw_tab (zw_3 (List.mem_of_getElem? (i := 120) rfl)) rfl
theorem mw_602 : Cond.lays "SpanningProbesModel" "SpanningProbesModel" "nextEdge" "[I" ∈ zWW := zw_tab (zw_3 (List.mem_of_getElem? (i := 122) rfl)) rfl
theorem mw_604 : Cond.lays "SpanningProbesModel" "SpanningProbesModel" "path" "[I" ∈ zWW := zw_tab (zw_3 (List.mem_of_getElem? (i := 124) rfl)) rfl
theorem mw_606 : Cond.lays "SpanningProbesModel" "SpanningProbesModel" "isBack" "[Z" ∈ zWW := zw_tab (zw_3 (List.mem_of_getElem? (i := 126) rfl)) rfl
theorem mw_608 : Cond.lays "SpanningProbesModel" "SpanningProbesModel" "mark" "[Z" ∈ zWW := zw_tab (zw_3 (List.mem_of_getElem? (i := 128) rfl)) rfl
theorem mw_610 : Cond.lays "SpanningProbesModel" "SpanningProbesModel" "depths" "[I" ∈ zWW := zw_tab (zw_3 (List.mem_of_getElem? (i := 130) rfl)) rfl
theorem mw_612 : Cond.lays "SpanningProbesModel" "SpanningProbesModel" "sorted" "[I" ∈ zWW := zw_tab (zw_3 (List.mem_of_getElem? (i := 132) rfl)) rfl
theorem mw_614 : Cond.lays "SpanningProbesModel" "SpanningProbesModel" "inTree" "[Z" ∈ zWW := zw_tab (zw_3 (List.mem_of_getElem? (i := 134) rfl)) rfl
theorem mw_616 : Cond.lays "SpanningProbesModel" "SpanningProbesModel" "isLink" "[Z" ∈ zWW := zw_tab (zw_3 (List.mem_of_getElem? (i := 136) rfl)) rfl
theorem mw_618 : Cond.lays "SpanningProbesModel" "SpanningProbesModel" "linkFrom" "[I" ∈ zWW := zw_tab (zw_3 (List.mem_of_getElem? (i := 138) rfl)) rfl
theorem mw_620 : Cond.lays "SpanningProbesModel" "SpanningProbesModel" "linkTo" "[I" ∈ zWW := zw_tab (zw_3 (List.mem_of_getElem? (i := 140) rfl)) rfl
theorem mw_622 : Cond.lays "SpanningProbesModel" "SpanningProbesModel" "rows" "[I" ∈ zWW := zw_tab (zw_3 (List.mem_of_getElem? (i := 142) rfl)) rfl
theorem mw_624 : Cond.lays "SpanningProbesModel" "SpanningProbesModel" "linkInTree" "[Z" ∈ zWW := zw_tab (zw_3 (List.mem_of_getElem? (i := 144) rfl)) rfl
theorem mw_626 : Cond.lays "SpanningProbesModel" "SpanningProbesModel" "based" "[Z" ∈ zWW := zw_tab (zw_3 (List.mem_of_getElem? (i := 146) rfl)) rfl
theorem mw_628 : Cond.lays "SpanningProbesModel" "SpanningProbesModel" "base" "[I" ∈ zWW := zw_tab (zw_3 (List.mem_of_getElem? (i := 148) rfl)) rfl
theorem mw_630 : Cond.lays "SpanningProbesModel" "SpanningProbesModel" "pairs" "I" ∈ zWW := zw_tab (zw_3 (List.mem_of_getElem? (i := 150) rfl)) rfl
theorem mw_632 : Cond.lays "SpanningProbesModel" "SpanningProbesModel" "pairA" "[I" ∈ zWW := zw_tab (zw_3 (List.mem_of_getElem? (i := 152) rfl)) rfl
theorem mw_634 : Cond.lays "SpanningProbesModel" "SpanningProbesModel" "pairB" "[I" ∈ zWW := zw_tab (zw_3 (List.mem_of_getElem? (i := 154) rfl)) rfl
theorem mw_636 : Cond.lays "SpanningProbesModel" "SpanningProbesModel" "ways" "I" ∈ zWW := zw_tab (zw_3 (List.mem_of_getElem? (i := 156) rfl)) rfl
theorem mw_638 : Cond.lays "SpanningProbesModel" "SpanningProbesModel" "wayLength" "[I" ∈ zWW := zw_tab (zw_3 (List.mem_of_getElem? (i := 158) rfl)) rfl
theorem mw_640 : Cond.lays "SpanningProbesModel" "SpanningProbesModel" "wayLinks" "[I" ∈ zWW := zw_tab (zw_3 (List.mem_of_getElem? (i := 160) rfl)) rfl
theorem mw_642 : Cond.lays "SpanningProbesModel" "SpanningProbesModel" "found" "I" ∈ zWW := zw_tab (zw_3 (List.mem_of_getElem? (i := 162) rfl)) rfl
theorem mw_644 : Cond.lays "SpanningProbesModel" "SpanningProbesModel" "trial" "[I" ∈ zWW := zw_tab (zw_3 (List.mem_of_getElem? (i := 164) rfl)) rfl
theorem mw_646 : Cond.lays "SpanningProbesModel" "SpanningProbesModel" "running" "Z" ∈ zWW := zw_tab (zw_3 (List.mem_of_getElem? (i := 166) rfl)) rfl
theorem mw_648 : Cond.lays "SpanningProbesModel" "SpanningProbesModel" "place" "I" ∈ zWW := zw_tab (zw_3 (List.mem_of_getElem? (i := 168) rfl)) rfl
theorem mw_650 : Cond.lays "SpanningProbesModel" "SpanningProbesModel" "passedLinks" "I" ∈ zWW := zw_tab (zw_3 (List.mem_of_getElem? (i := 170) rfl)) rfl
theorem mw_652 : Cond.lays "SpanningProbesModel" "SpanningProbesModel" "trace" "[I" ∈ zWW := zw_tab (zw_3 (List.mem_of_getElem? (i := 172) rfl)) rfl
theorem mw_654 : Cond.lays "SpanningProbesModel" "SpanningProbesModel" "edgeCount" "[I" ∈ zWW := zw_tab (zw_3 (List.mem_of_getElem? (i := 174) rfl)) rfl
theorem mw_656 : Cond.lays "SpanningProbesModel" "SpanningProbesModel" "blockCount" "[I" ∈ zWW := zw_tab (zw_3 (List.mem_of_getElem? (i := 176) rfl)) rfl
theorem mw_658 : Cond.lays "SpanningProbesModel" "SpanningProbesModel" "wayCount" "[I" ∈ zWW := zw_tab (zw_3 (List.mem_of_getElem? (i := 178) rfl)) rfl
theorem mw_660 : Cond.lays "SpanningProbesModel" "SpanningProbesModel" "stopCount" "[I" ∈ zWW := zw_tab (zw_3 (List.mem_of_getElem? (i := 180) rfl)) rfl
theorem mw_662 : Cond.lays "SpanningProbesModel" "SpanningProbesModel" "runs" "I" ∈ zWW := zw_tab (zw_3 (List.mem_of_getElem? (i := 182) rfl)) rfl
theorem mw_664 : Cond.lays "SpanningProbesModel" "SpanningProbesModel" "ends" "I" ∈ zWW := zw_tab (zw_3 (List.mem_of_getElem? (i := 184) rfl)) rfl
theorem mw_667 : Cond.methodLink "SpanningProbesLaw" 25 ({ cls := "SpanningProbesModel", name := "edge", desc := "(II)I" } : MethodName) ∈ zWW := zw_tab (zw_3 (List.mem_of_getElem? (i := 187) rfl)) rfl
theorem mw_668 : Cond.instanceMethod ({ cls := "SpanningProbesModel", name := "edge", desc := "(II)I" } : MethodName) ∈ zWW := zw_tab (zw_3 (List.mem_of_getElem? (i := 188) rfl)) rfl
theorem mw_669 : Cond.selects "SpanningProbesModel" ({ cls := "SpanningProbesModel", name := "edge", desc := "(II)I" } : MethodName) ({ cls := "SpanningProbesModel", name := "edge", desc := "(II)I" } : MethodName) ∈ zWW := zw_tab (zw_3 (List.mem_of_getElem? (i := 189) rfl)) rfl
theorem mw_670 : Cond.code ({ cls := "SpanningProbesModel", name := "edge", desc := "(II)I" } : MethodName) prog_9_method_4_code 3 (Option.some FieldType.int) ∈ zWW := zw_tab (zw_3 (List.mem_of_getElem? (i := 190) rfl)) rfl
theorem mw_671 : Cond.methodLink "SpanningProbesModel" 103 ({ cls := "SpanningProbesModel", name := "block", desc := "(I)Z" } : MethodName) ∈ zWW := zw_tab (zw_3 (List.mem_of_getElem? (i := 191) rfl)) rfl
theorem mw_673 : Cond.instanceMethod ({ cls := "SpanningProbesModel", name := "block", desc := "(I)Z" } : MethodName) ∈ zWW := zw_tab (zw_3 (List.mem_of_getElem? (i := 193) rfl)) rfl
theorem mw_674 : Cond.code ({ cls := "SpanningProbesModel", name := "block", desc := "(I)Z" } : MethodName) prog_9_method_2_code 2 (Option.some FieldType.boolean) ∈ zWW := zw_tab (zw_3 (List.mem_of_getElem? (i := 194) rfl)) rfl
theorem mw_675 : Cond.methodLink "SpanningProbesLaw" 30 ({ cls := "SpanningProbesModel", name := "seal", desc := "()I" } : MethodName) ∈ zWW := zw_tab (zw_3 (List.mem_of_getElem? (i := 195) rfl)) rfl
theorem mw_676 : Cond.instanceMethod ({ cls := "SpanningProbesModel", name := "seal", desc := "()I" } : MethodName) ∈ zWW := zw_tab (zw_3 (List.mem_of_getElem? (i := 196) rfl)) rfl
theorem mw_677 : Cond.selects "SpanningProbesModel" ({ cls := "SpanningProbesModel", name := "seal", desc := "()I" } : MethodName) ({ cls := "SpanningProbesModel", name := "seal", desc := "()I" } : MethodName) ∈ zWW := zw_tab (zw_3 (List.mem_of_getElem? (i := 197) rfl)) rfl
theorem mw_678 : Cond.code ({ cls := "SpanningProbesModel", name := "seal", desc := "()I" } : MethodName) prog_9_method_24_code 1 (Option.some FieldType.int) ∈ zWW := zw_tab (zw_3 (List.mem_of_getElem? (i := 198) rfl)) rfl
theorem mw_679 : Cond.methodLink "SpanningProbesModel" 151 ({ cls := "SpanningProbesModel", name := "search", desc := "()V" } : MethodName) ∈ zWW := zw_tab (zw_3 (List.mem_of_getElem? (i := 199) rfl)) rfl
theorem mw_681 : Cond.instanceMethod ({ cls := "SpanningProbesModel", name := "search", desc := "()V" } : MethodName) ∈ zWW := zw_tab (zw_3 (List.mem_of_getElem? (i := 201) rfl)) rfl
theorem mw_682 : Cond.code ({ cls := "SpanningProbesModel", name := "search", desc := "()V" } : MethodName) prog_9_method_6_code 5 (Option.none : Option Jvm.ClassFile.FieldType) ∈ zWW := zw_tab (zw_3 (List.mem_of_getElem? (i := 202) rfl)) rfl
theorem mw_683 : Cond.methodLink "SpanningProbesModel" 107 ({ cls := "SpanningProbesModel", name := "look", desc := "(I)I" } : MethodName) ∈ zWW := zw_tab (zw_3 (List.mem_of_getElem? (i := 203) rfl)) rfl
theorem mw_685 : Cond.instanceMethod ({ cls := "SpanningProbesModel", name := "look", desc := "(I)I" } : MethodName) ∈ zWW := zw_tab (zw_3 (List.mem_of_getElem? (i := 205) rfl)) rfl
theorem mw_686 : Cond.code ({ cls := "SpanningProbesModel", name := "look", desc := "(I)I" } : MethodName) prog_9_method_5_code 3 (Option.some FieldType.int) ∈ zWW := zw_tab (zw_3 (List.mem_of_getElem? (i := 206) rfl)) rfl
theorem mw_687 : Cond.methodLink "SpanningProbesModel" 154 ({ cls := "SpanningProbesModel", name := "connected", desc := "()Z" } : MethodName) ∈ zWW := zw_tab (zw_3 (List.mem_of_getElem? (i := 207) rfl)) rfl
theorem mw_689 : Cond.instanceMethod ({ cls := "SpanningProbesModel", name := "connected", desc := "()Z" } : MethodName) ∈ zWW := zw_tab (zw_3 (List.mem_of_getElem? (i := 209) rfl)) rfl
theorem mw_690 : Cond.code ({ cls := "SpanningProbesModel", name := "connected", desc := "()Z" } : MethodName) prog_9_method_8_code 3 (Option.some FieldType.boolean) ∈ zWW := zw_tab (zw_3 (List.mem_of_getElem? (i := 210) rfl)) rfl
theorem mw_691 : Cond.methodLink "SpanningProbesModel" 111 ({ cls := "SpanningProbesModel", name := "spread", desc := "(I)V" } : MethodName) ∈ zWW := zw_tab (zw_3 (List.mem_of_getElem? (i := 211) rfl)) rfl
theorem mw_693 : Cond.instanceMethod ({ cls := "SpanningProbesModel", name := "spread", desc := "(I)V" } : MethodName) ∈ zWW := zw_tab (zw_3 (List.mem_of_getElem? (i := 213) rfl)) rfl
theorem mw_694 : Cond.code ({ cls := "SpanningProbesModel", name := "spread", desc := "(I)V" } : MethodName) prog_9_method_7_code 4 (Option.none : Option Jvm.ClassFile.FieldType) ∈ zWW := zw_tab (zw_3 (List.mem_of_getElem? (i := 214) rfl)) rfl
theorem mw_695 : Cond.methodLink "SpanningProbesModel" 157 ({ cls := "SpanningProbesModel", name := "layLinks", desc := "()V" } : MethodName) ∈ zWW := zw_tab (zw_3 (List.mem_of_getElem? (i := 215) rfl)) rfl
theorem mw_697 : Cond.instanceMethod ({ cls := "SpanningProbesModel", name := "layLinks", desc := "()V" } : MethodName) ∈ zWW := zw_tab (zw_3 (List.mem_of_getElem? (i := 217) rfl)) rfl
theorem mw_698 : Cond.code ({ cls := "SpanningProbesModel", name := "layLinks", desc := "()V" } : MethodName) prog_9_method_15_code 3 (Option.none : Option Jvm.ClassFile.FieldType) ∈ zWW := zw_tab (zw_3 (List.mem_of_getElem? (i := 218) rfl)) rfl
theorem mw_699 : Cond.methodLink "SpanningProbesModel" 128 ({ cls := "SpanningProbesModel", name := "rowsBefore", desc := "(II)I" } : MethodName) ∈ zWW := zw_tab (zw_3 (List.mem_of_getElem? (i := 219) rfl)) rfl
theorem mw_701 : Cond.instanceMethod ({ cls := "SpanningProbesModel", name := "rowsBefore", desc := "(II)I" } : MethodName) ∈ zWW := zw_tab (zw_3 (List.mem_of_getElem? (i := 221) rfl)) rfl
theorem mw_702 : Cond.code ({ cls := "SpanningProbesModel", name := "rowsBefore", desc := "(II)I" } : MethodName) prog_9_method_16_code 5 (Option.some FieldType.int) ∈ zWW := zw_tab (zw_3 (List.mem_of_getElem? (i := 222) rfl)) rfl
theorem mw_703 : Cond.methodLink "SpanningProbesModel" 160 ({ cls := "SpanningProbesModel", name := "deepen", desc := "()V" } : MethodName) ∈ zWW := zw_tab (zw_3 (List.mem_of_getElem? (i := 223) rfl)) rfl
theorem mw_705 : Cond.instanceMethod ({ cls := "SpanningProbesModel", name := "deepen", desc := "()V" } : MethodName) ∈ zWW := zw_tab (zw_3 (List.mem_of_getElem? (i := 225) rfl)) rfl
theorem mw_706 : Cond.code ({ cls := "SpanningProbesModel", name := "deepen", desc := "()V" } : MethodName) prog_9_method_9_code 4 (Option.none : Option Jvm.ClassFile.FieldType) ∈ zWW := zw_tab (zw_3 (List.mem_of_getElem? (i := 226) rfl)) rfl
theorem mw_707 : Cond.methodLink "SpanningProbesModel" 163 ({ cls := "SpanningProbesModel", name := "sort", desc := "()V" } : MethodName) ∈ zWW := zw_tab (zw_3 (List.mem_of_getElem? (i := 227) rfl)) rfl
theorem mw_709 : Cond.instanceMethod ({ cls := "SpanningProbesModel", name := "sort", desc := "()V" } : MethodName) ∈ zWW := zw_tab (zw_3 (List.mem_of_getElem? (i := 229) rfl)) rfl
theorem mw_710 : Cond.code ({ cls := "SpanningProbesModel", name := "sort", desc := "()V" } : MethodName) prog_9_method_11_code 6 (Option.none : Option Jvm.ClassFile.FieldType) ∈ zWW := zw_tab (zw_3 (List.mem_of_getElem? (i := 230) rfl)) rfl
theorem mw_711 : Cond.methodLink "SpanningProbesModel" 115 ({ cls := "SpanningProbesModel", name := "weight", desc := "(I)I" } : MethodName) ∈ zWW := zw_tab (zw_3 (List.mem_of_getElem? (i := 231) rfl)) rfl
theorem mw_713 : Cond.instanceMethod ({ cls := "SpanningProbesModel", name := "weight", desc := "(I)I" } : MethodName) ∈ zWW := zw_tab (zw_3 (List.mem_of_getElem? (i := 233) rfl)) rfl
theorem mw_714 : Cond.code ({ cls := "SpanningProbesModel", name := "weight", desc := "(I)I" } : MethodName) prog_9_method_10_code 4 (Option.some FieldType.int) ∈ zWW := zw_tab (zw_3 (List.mem_of_getElem? (i := 234) rfl)) rfl
theorem mw_715 : Cond.methodLink "SpanningProbesModel" 166 ({ cls := "SpanningProbesModel", name := "growTrees", desc := "()V" } : MethodName) ∈ zWW := zw_tab (zw_3 (List.mem_of_getElem? (i := 235) rfl)) rfl
theorem mw_717 : Cond.instanceMethod ({ cls := "SpanningProbesModel", name := "growTrees", desc := "()V" } : MethodName) ∈ zWW := zw_tab (zw_3 (List.mem_of_getElem? (i := 237) rfl)) rfl
theorem mw_718 : Cond.code ({ cls := "SpanningProbesModel", name := "growTrees", desc := "()V" } : MethodName) prog_9_method_14_code 3 (Option.none : Option Jvm.ClassFile.FieldType) ∈ zWW := zw_tab (zw_3 (List.mem_of_getElem? (i := 238) rfl)) rfl
theorem mw_719 : Cond.methodLink "SpanningProbesModel" 125 ({ cls := "SpanningProbesModel", name := "join", desc := "(II)Z" } : MethodName) ∈ zWW := zw_tab (zw_3 (List.mem_of_getElem? (i := 239) rfl)) rfl
theorem mw_721 : Cond.instanceMethod ({ cls := "SpanningProbesModel", name := "join", desc := "(II)Z" } : MethodName) ∈ zWW := zw_tab (zw_4 (List.mem_of_getElem? (i := 1) rfl)) rfl
theorem mw_722 : Cond.code ({ cls := "SpanningProbesModel", name := "join", desc := "(II)Z" } : MethodName) prog_9_method_13_code 4 (Option.some FieldType.boolean) ∈ zWW := zw_tab (zw_4 (List.mem_of_getElem? (i := 2) rfl)) rfl
theorem mw_723 : Cond.methodLink "SpanningProbesModel" 121 ({ cls := "SpanningProbesModel", name := "joined", desc := "(II)Z" } : MethodName) ∈ zWW := zw_tab (zw_4 (List.mem_of_getElem? (i := 3) rfl)) rfl
theorem mw_725 : Cond.instanceMethod ({ cls := "SpanningProbesModel", name := "joined", desc := "(II)Z" } : MethodName) ∈ zWW := zw_tab (zw_4 (List.mem_of_getElem? (i := 5) rfl)) rfl
theorem mw_726 : Cond.code ({ cls := "SpanningProbesModel", name := "joined", desc := "(II)Z" } : MethodName) prog_9_method_12_code 6 (Option.some FieldType.boolean) ∈ zWW := zw_tab (zw_4 (List.mem_of_getElem? (i := 6) rfl)) rfl
theorem mw_727 : Cond.methodLink "SpanningProbesModel" 169 ({ cls := "SpanningProbesModel", name := "findBases", desc := "()V" } : MethodName) ∈ zWW := zw_tab (zw_4 (List.mem_of_getElem? (i := 7) rfl)) rfl
theorem mw_729 : Cond.instanceMethod ({ cls := "SpanningProbesModel", name := "findBases", desc := "()V" } : MethodName) ∈ zWW := zw_tab (zw_4 (List.mem_of_getElem? (i := 9) rfl)) rfl
theorem mw_730 : Cond.code ({ cls := "SpanningProbesModel", name := "findBases", desc := "()V" } : MethodName) prog_9_method_18_code 5 (Option.none : Option Jvm.ClassFile.FieldType) ∈ zWW := zw_tab (zw_4 (List.mem_of_getElem? (i := 10) rfl)) rfl
theorem mw_731 : Cond.methodLink "SpanningProbesModel" 132 ({ cls := "SpanningProbesModel", name := "value", desc := "(I)I" } : MethodName) ∈ zWW := zw_tab (zw_4 (List.mem_of_getElem? (i := 11) rfl)) rfl
theorem mw_733 : Cond.instanceMethod ({ cls := "SpanningProbesModel", name := "value", desc := "(I)I" } : MethodName) ∈ zWW := zw_tab (zw_4 (List.mem_of_getElem? (i := 13) rfl)) rfl
theorem mw_734 : Cond.code ({ cls := "SpanningProbesModel", name := "value", desc := "(I)I" } : MethodName) prog_9_method_17_code 2 (Option.some FieldType.int) ∈ zWW := zw_tab (zw_4 (List.mem_of_getElem? (i := 14) rfl)) rfl
theorem mw_735 : Cond.methodLink "SpanningProbesModel" 172 ({ cls := "SpanningProbesModel", name := "listWays", desc := "()V" } : MethodName) ∈ zWW := zw_tab (zw_4 (List.mem_of_getElem? (i := 15) rfl)) rfl
theorem mw_737 : Cond.instanceMethod ({ cls := "SpanningProbesModel", name := "listWays", desc := "()V" } : MethodName) ∈ zWW := zw_tab (zw_4 (List.mem_of_getElem? (i := 17) rfl)) rfl
theorem mw_738 : Cond.code ({ cls := "SpanningProbesModel", name := "listWays", desc := "()V" } : MethodName) prog_9_method_23_code 3 (Option.none : Option Jvm.ClassFile.FieldType) ∈ zWW := zw_tab (zw_4 (List.mem_of_getElem? (i := 18) rfl)) rfl
theorem mw_739 : Cond.methodLink "SpanningProbesModel" 141 ({ cls := "SpanningProbesModel", name := "complete", desc := "()V" } : MethodName) ∈ zWW := zw_tab (zw_4 (List.mem_of_getElem? (i := 19) rfl)) rfl
theorem mw_741 : Cond.instanceMethod ({ cls := "SpanningProbesModel", name := "complete", desc := "()V" } : MethodName) ∈ zWW := zw_tab (zw_4 (List.mem_of_getElem? (i := 21) rfl)) rfl
theorem mw_742 : Cond.code ({ cls := "SpanningProbesModel", name := "complete", desc := "()V" } : MethodName) prog_9_method_21_code 3 (Option.none : Option Jvm.ClassFile.FieldType) ∈ zWW := zw_tab (zw_4 (List.mem_of_getElem? (i := 22) rfl)) rfl
theorem mw_743 : Cond.methodLink "SpanningProbesModel" 138 ({ cls := "SpanningProbesModel", name := "linkAfter", desc := "(II)I" } : MethodName) ∈ zWW := zw_tab (zw_4 (List.mem_of_getElem? (i := 23) rfl)) rfl
theorem mw_745 : Cond.instanceMethod ({ cls := "SpanningProbesModel", name := "linkAfter", desc := "(II)I" } : MethodName) ∈ zWW := zw_tab (zw_4 (List.mem_of_getElem? (i := 25) rfl)) rfl
theorem mw_746 : Cond.code ({ cls := "SpanningProbesModel", name := "linkAfter", desc := "(II)I" } : MethodName) prog_9_method_20_code 4 (Option.some FieldType.int) ∈ zWW := zw_tab (zw_4 (List.mem_of_getElem? (i := 26) rfl)) rfl
theorem mw_747 : Cond.methodLink "SpanningProbesModel" 147 ({ cls := "SpanningProbesModel", name := "advance", desc := "()Z" } : MethodName) ∈ zWW := zw_tab (zw_4 (List.mem_of_getElem? (i := 27) rfl)) rfl
theorem mw_749 : Cond.instanceMethod ({ cls := "SpanningProbesModel", name := "advance", desc := "()Z" } : MethodName) ∈ zWW := zw_tab (zw_4 (List.mem_of_getElem? (i := 29) rfl)) rfl
theorem mw_750 : Cond.code ({ cls := "SpanningProbesModel", name := "advance", desc := "()Z" } : MethodName) prog_9_method_22_code 3 (Option.some FieldType.boolean) ∈ zWW := zw_tab (zw_4 (List.mem_of_getElem? (i := 30) rfl)) rfl
theorem mw_751 : Cond.methodLink "SpanningProbesLaw" 35 ({ cls := "SpanningProbesModel", name := "back", desc := "(I)Z" } : MethodName) ∈ zWW := zw_tab (zw_4 (List.mem_of_getElem? (i := 31) rfl)) rfl
theorem mw_752 : Cond.instanceMethod ({ cls := "SpanningProbesModel", name := "back", desc := "(I)Z" } : MethodName) ∈ zWW := zw_tab (zw_4 (List.mem_of_getElem? (i := 32) rfl)) rfl
theorem mw_753 : Cond.selects "SpanningProbesModel" ({ cls := "SpanningProbesModel", name := "back", desc := "(I)Z" } : MethodName) ({ cls := "SpanningProbesModel", name := "back", desc := "(I)Z" } : MethodName) ∈ zWW := zw_tab (zw_4 (List.mem_of_getElem? (i := 33) rfl)) rfl
theorem mw_754 : Cond.code ({ cls := "SpanningProbesModel", name := "back", desc := "(I)Z" } : MethodName) prog_9_method_25_code 2 (Option.some FieldType.boolean) ∈ zWW := zw_tab (zw_4 (List.mem_of_getElem? (i := 34) rfl)) rfl
theorem mw_755 : Cond.methodLink "SpanningProbesModel" 175 ({ cls := "SpanningProbesModel", name := "known", desc := "(I)Z" } : MethodName) ∈ zWW := zw_tab (zw_4 (List.mem_of_getElem? (i := 35) rfl)) rfl
theorem mw_757 : Cond.instanceMethod ({ cls := "SpanningProbesModel", name := "known", desc := "(I)Z" } : MethodName) ∈ zWW := zw_tab (zw_4 (List.mem_of_getElem? (i := 37) rfl)) rfl
theorem mw_758 : Cond.code ({ cls := "SpanningProbesModel", name := "known", desc := "(I)Z" } : MethodName) prog_9_method_3_code 2 (Option.some FieldType.boolean) ∈ zWW := zw_tab (zw_4 (List.mem_of_getElem? (i := 38) rfl)) rfl
theorem mw_759 : Cond.methodLink "SpanningProbesLaw" 40 ({ cls := "SpanningProbesModel", name := "depth", desc := "(I)I" } : MethodName) ∈ zWW := zw_tab (zw_4 (List.mem_of_getElem? (i := 39) rfl)) rfl
theorem mw_760 : Cond.instanceMethod ({ cls := "SpanningProbesModel", name := "depth", desc := "(I)I" } : MethodName) ∈ zWW := zw_tab (zw_4 (List.mem_of_getElem? (i := 40) rfl)) rfl
theorem mw_761 : Cond.selects "SpanningProbesModel" ({ cls := "SpanningProbesModel", name := "depth", desc := "(I)I" } : MethodName) ({ cls := "SpanningProbesModel", name := "depth", desc := "(I)I" } : MethodName) ∈ zWW := zw_tab (zw_4 (List.mem_of_getElem? (i := 41) rfl)) rfl
theorem mw_762 : Cond.code ({ cls := "SpanningProbesModel", name := "depth", desc := "(I)I" } : MethodName) prog_9_method_26_code 2 (Option.some FieldType.int) ∈ zWW := zw_tab (zw_4 (List.mem_of_getElem? (i := 42) rfl)) rfl
theorem mw_763 : Cond.methodLink "SpanningProbesLaw" 44 ({ cls := "SpanningProbesModel", name := "probe", desc := "(I)Z" } : MethodName) ∈ zWW := zw_tab (zw_4 (List.mem_of_getElem? (i := 43) rfl)) rfl
theorem mw_764 : Cond.instanceMethod ({ cls := "SpanningProbesModel", name := "probe", desc := "(I)Z" } : MethodName) ∈ zWW := zw_tab (zw_4 (List.mem_of_getElem? (i := 44) rfl)) rfl
theorem mw_765 : Cond.selects "SpanningProbesModel" ({ cls := "SpanningProbesModel", name := "probe", desc := "(I)Z" } : MethodName) ({ cls := "SpanningProbesModel", name := "probe", desc := "(I)Z" } : MethodName) ∈ zWW := zw_tab (zw_4 (List.mem_of_getElem? (i := 45) rfl)) rfl
theorem mw_766 : Cond.code ({ cls := "SpanningProbesModel", name := "probe", desc := "(I)Z" } : MethodName) prog_9_method_27_code 2 (Option.some FieldType.boolean) ∈ zWW := zw_tab (zw_4 (List.mem_of_getElem? (i := 46) rfl)) rfl
theorem mw_767 : Cond.methodLink "SpanningProbesLaw" 48 ({ cls := "SpanningProbesModel", name := "increment", desc := "(I)I" } : MethodName) ∈ zWW := zw_tab (zw_4 (List.mem_of_getElem? (i := 47) rfl)) rfl
theorem mw_768 : Cond.instanceMethod ({ cls := "SpanningProbesModel", name := "increment", desc := "(I)I" } : MethodName) ∈ zWW := zw_tab (zw_4 (List.mem_of_getElem? (i := 48) rfl)) rfl
theorem mw_769 : Cond.selects "SpanningProbesModel" ({ cls := "SpanningProbesModel", name := "increment", desc := "(I)I" } : MethodName) ({ cls := "SpanningProbesModel", name := "increment", desc := "(I)I" } : MethodName) ∈ zWW := zw_tab (zw_4 (List.mem_of_getElem? (i := 49) rfl)) rfl
theorem mw_770 : Cond.code ({ cls := "SpanningProbesModel", name := "increment", desc := "(I)I" } : MethodName) prog_9_method_28_code 2 (Option.some FieldType.int) ∈ zWW := zw_tab (zw_4 (List.mem_of_getElem? (i := 50) rfl)) rfl
theorem mw_771 : Cond.methodLink "SpanningProbesModel" 178 ({ cls := "SpanningProbesModel", name := "added", desc := "(I)I" } : MethodName) ∈ zWW := zw_tab (zw_4 (List.mem_of_getElem? (i := 51) rfl)) rfl
theorem mw_773 : Cond.instanceMethod ({ cls := "SpanningProbesModel", name := "added", desc := "(I)I" } : MethodName) ∈ zWW := zw_tab (zw_4 (List.mem_of_getElem? (i := 53) rfl)) rfl
theorem mw_774 : Cond.code ({ cls := "SpanningProbesModel", name := "added", desc := "(I)I" } : MethodName) prog_9_method_19_code 2 (Option.some FieldType.int) ∈ zWW := zw_tab (zw_4 (List.mem_of_getElem? (i := 54) rfl)) rfl
theorem mw_775 : Cond.constant "SpanningProbesModel" 181 (-2147483648 : Int32) ∈ zWW := zw_tab (zw_4 (List.mem_of_getElem? (i := 55) rfl)) rfl
theorem mw_776 : Cond.methodLink "SpanningProbesLaw" 52 ({ cls := "SpanningProbesModel", name := "reset", desc := "(I)I" } : MethodName) ∈ zWW := zw_tab (zw_4 (List.mem_of_getElem? (i := 56) rfl)) rfl
theorem mw_777 : Cond.instanceMethod ({ cls := "SpanningProbesModel", name := "reset", desc := "(I)I" } : MethodName) ∈ zWW := zw_tab (zw_4 (List.mem_of_getElem? (i := 57) rfl)) rfl
theorem mw_778 : Cond.selects "SpanningProbesModel" ({ cls := "SpanningProbesModel", name := "reset", desc := "(I)I" } : MethodName) ({ cls := "SpanningProbesModel", name := "reset", desc := "(I)I" } : MethodName) ∈ zWW := zw_tab (zw_4 (List.mem_of_getElem? (i := 58) rfl)) rfl
theorem mw_779 : Cond.code ({ cls := "SpanningProbesModel", name := "reset", desc := "(I)I" } : MethodName) prog_9_method_29_code 2 (Option.some FieldType.int) ∈ zWW := zw_tab (zw_4 (List.mem_of_getElem? (i := 59) rfl)) rfl
theorem mw_780 : Cond.methodLink "SpanningProbesLaw" 57 ({ cls := "SpanningProbesModel", name := "start", desc := "()Z" } : MethodName) ∈ zWW := zw_tab (zw_4 (List.mem_of_getElem? (i := 60) rfl)) rfl
theorem mw_781 : Cond.instanceMethod ({ cls := "SpanningProbesModel", name := "start", desc := "()Z" } : MethodName) ∈ zWW := zw_tab (zw_4 (List.mem_of_getElem? (i := 61) rfl)) rfl
theorem mw_782 : Cond.selects "SpanningProbesModel" ({ cls := "SpanningProbesModel", name := "start", desc := "()Z" } : MethodName) ({ cls := "SpanningProbesModel", name := "start", desc := "()Z" } : MethodName) ∈ zWW := zw_tab (zw_4 (List.mem_of_getElem? (i := 62) rfl)) rfl
theorem mw_783 : Cond.code ({ cls := "SpanningProbesModel", name := "start", desc := "()Z" } : MethodName) prog_9_method_30_code 1 (Option.some FieldType.boolean) ∈ zWW := zw_tab (zw_4 (List.mem_of_getElem? (i := 63) rfl)) rfl
theorem mw_784 : Cond.methodLink "SpanningProbesLaw" 61 ({ cls := "SpanningProbesModel", name := "take", desc := "(I)I" } : MethodName) ∈ zWW := zw_tab (zw_4 (List.mem_of_getElem? (i := 64) rfl)) rfl
theorem mw_785 : Cond.instanceMethod ({ cls := "SpanningProbesModel", name := "take", desc := "(I)I" } : MethodName) ∈ zWW := zw_tab (zw_4 (List.mem_of_getElem? (i := 65) rfl)) rfl
theorem mw_786 : Cond.selects "SpanningProbesModel" ({ cls := "SpanningProbesModel", name := "take", desc := "(I)I" } : MethodName) ({ cls := "SpanningProbesModel", name := "take", desc := "(I)I" } : MethodName) ∈ zWW := zw_tab (zw_4 (List.mem_of_getElem? (i := 66) rfl)) rfl
theorem mw_787 : Cond.code ({ cls := "SpanningProbesModel", name := "take", desc := "(I)I" } : MethodName) prog_9_method_34_code 2 (Option.some FieldType.int) ∈ zWW := zw_tab (zw_4 (List.mem_of_getElem? (i := 67) rfl)) rfl
theorem mw_788 : Cond.methodLink "SpanningProbesModel" 203 ({ cls := "SpanningProbesModel", name := "pass", desc := "(I)V" } : MethodName) ∈ zWW := zw_tab (zw_4 (List.mem_of_getElem? (i := 68) rfl)) rfl
theorem mw_790 : Cond.instanceMethod ({ cls := "SpanningProbesModel", name := "pass", desc := "(I)V" } : MethodName) ∈ zWW := zw_tab (zw_4 (List.mem_of_getElem? (i := 70) rfl)) rfl
theorem mw_791 : Cond.code ({ cls := "SpanningProbesModel", name := "pass", desc := "(I)V" } : MethodName) prog_9_method_33_code 2 (Option.none : Option Jvm.ClassFile.FieldType) ∈ zWW := zw_tab (zw_4 (List.mem_of_getElem? (i := 71) rfl)) rfl
theorem mw_792 : Cond.methodLink "SpanningProbesModel" 194 ({ cls := "SpanningProbesModel", name := "note", desc := "(I)V" } : MethodName) ∈ zWW := zw_tab (zw_4 (List.mem_of_getElem? (i := 72) rfl)) rfl
theorem mw_794 : Cond.instanceMethod ({ cls := "SpanningProbesModel", name := "note", desc := "(I)V" } : MethodName) ∈ zWW := zw_tab (zw_4 (List.mem_of_getElem? (i := 74) rfl)) rfl
theorem mw_795 : Cond.code ({ cls := "SpanningProbesModel", name := "note", desc := "(I)V" } : MethodName) prog_9_method_31_code 2 (Option.none : Option Jvm.ClassFile.FieldType) ∈ zWW := zw_tab (zw_4 (List.mem_of_getElem? (i := 75) rfl)) rfl
theorem mw_796 : Cond.methodLink "SpanningProbesModel" 197 ({ cls := "SpanningProbesModel", name := "countWay", desc := "()V" } : MethodName) ∈ zWW := zw_tab (zw_4 (List.mem_of_getElem? (i := 76) rfl)) rfl
theorem mw_798 : Cond.instanceMethod ({ cls := "SpanningProbesModel", name := "countWay", desc := "()V" } : MethodName) ∈ zWW := zw_tab (zw_4 (List.mem_of_getElem? (i := 78) rfl)) rfl
theorem mw_799 : Cond.code ({ cls := "SpanningProbesModel", name := "countWay", desc := "()V" } : MethodName) prog_9_method_32_code 4 (Option.none : Option Jvm.ClassFile.FieldType) ∈ zWW := zw_tab (zw_4 (List.mem_of_getElem? (i := 79) rfl)) rfl
theorem mw_800 : Cond.methodLink "SpanningProbesLaw" 65 ({ cls := "SpanningProbesModel", name := "walk", desc := "(II)I" } : MethodName) ∈ zWW := zw_tab (zw_4 (List.mem_of_getElem? (i := 80) rfl)) rfl
theorem mw_801 : Cond.instanceMethod ({ cls := "SpanningProbesModel", name := "walk", desc := "(II)I" } : MethodName) ∈ zWW := zw_tab (zw_4 (List.mem_of_getElem? (i := 81) rfl)) rfl
theorem mw_802 : Cond.selects "SpanningProbesModel" ({ cls := "SpanningProbesModel", name := "walk", desc := "(II)I" } : MethodName) ({ cls := "SpanningProbesModel", name := "walk", desc := "(II)I" } : MethodName) ∈ zWW := zw_tab (zw_4 (List.mem_of_getElem? (i := 82) rfl)) rfl
theorem mw_803 : Cond.code ({ cls := "SpanningProbesModel", name := "walk", desc := "(II)I" } : MethodName) prog_9_method_36_code 6 (Option.some FieldType.int) ∈ zWW := zw_tab (zw_4 (List.mem_of_getElem? (i := 83) rfl)) rfl
theorem mw_804 : Cond.methodLink "SpanningProbesModel" 206 ({ cls := "SpanningProbesModel", name := "pick", desc := "(I)I" } : MethodName) ∈ zWW := zw_tab (zw_4 (List.mem_of_getElem? (i := 84) rfl)) rfl
theorem mw_806 : Cond.instanceMethod ({ cls := "SpanningProbesModel", name := "pick", desc := "(I)I" } : MethodName) ∈ zWW := zw_tab (zw_4 (List.mem_of_getElem? (i := 86) rfl)) rfl
theorem mw_807 : Cond.code ({ cls := "SpanningProbesModel", name := "pick", desc := "(I)I" } : MethodName) prog_9_method_35_code 5 (Option.some FieldType.int) ∈ zWW := zw_tab (zw_4 (List.mem_of_getElem? (i := 87) rfl)) rfl
theorem mw_808 : Cond.methodLink "SpanningProbesLaw" 69 ({ cls := "SpanningProbesModel", name := "stop", desc := "()I" } : MethodName) ∈ zWW := zw_tab (zw_4 (List.mem_of_getElem? (i := 88) rfl)) rfl
theorem mw_809 : Cond.instanceMethod ({ cls := "SpanningProbesModel", name := "stop", desc := "()I" } : MethodName) ∈ zWW := zw_tab (zw_4 (List.mem_of_getElem? (i := 89) rfl)) rfl
theorem mw_810 : Cond.selects "SpanningProbesModel" ({ cls := "SpanningProbesModel", name := "stop", desc := "()I" } : MethodName) ({ cls := "SpanningProbesModel", name := "stop", desc := "()I" } : MethodName) ∈ zWW := zw_tab (zw_4 (List.mem_of_getElem? (i := 90) rfl)) rfl
theorem mw_811 : Cond.code ({ cls := "SpanningProbesModel", name := "stop", desc := "()I" } : MethodName) prog_9_method_37_code 1 (Option.some FieldType.int) ∈ zWW := zw_tab (zw_4 (List.mem_of_getElem? (i := 91) rfl)) rfl
theorem mw_812 : Cond.methodLink "SpanningProbesLaw" 73 ({ cls := "SpanningProbesModel", name := "at", desc := "()I" } : MethodName) ∈ zWW := zw_tab (zw_4 (List.mem_of_getElem? (i := 92) rfl)) rfl
theorem mw_813 : Cond.instanceMethod ({ cls := "SpanningProbesModel", name := "at", desc := "()I" } : MethodName) ∈ zWW := zw_tab (zw_4 (List.mem_of_getElem? (i := 93) rfl)) rfl
theorem mw_814 : Cond.selects "SpanningProbesModel" ({ cls := "SpanningProbesModel", name := "at", desc := "()I" } : MethodName) ({ cls := "SpanningProbesModel", name := "at", desc := "()I" } : MethodName) ∈ zWW := zw_tab (zw_4 (List.mem_of_getElem? (i := 94) rfl)) rfl
theorem mw_815 : Cond.code ({ cls := "SpanningProbesModel", name := "at", desc := "()I" } : MethodName) prog_9_method_38_code 1 (Option.some FieldType.int) ∈ zWW := zw_tab (zw_4 (List.mem_of_getElem? (i := 95) rfl)) rfl
theorem mw_816 : Cond.methodLink "SpanningProbesLaw" 77 ({ cls := "SpanningProbesModel", name := "register", desc := "()I" } : MethodName) ∈ zWW := zw_tab (zw_4 (List.mem_of_getElem? (i := 96) rfl)) rfl
theorem mw_817 : Cond.instanceMethod ({ cls := "SpanningProbesModel", name := "register", desc := "()I" } : MethodName) ∈ zWW := zw_tab (zw_4 (List.mem_of_getElem? (i := 97) rfl)) rfl
theorem mw_818 : Cond.selects "SpanningProbesModel" ({ cls := "SpanningProbesModel", name := "register", desc := "()I" } : MethodName) ({ cls := "SpanningProbesModel", name := "register", desc := "()I" } : MethodName) ∈ zWW := zw_tab (zw_4 (List.mem_of_getElem? (i := 98) rfl)) rfl
theorem mw_819 : Cond.code ({ cls := "SpanningProbesModel", name := "register", desc := "()I" } : MethodName) prog_9_method_39_code 3 (Option.some FieldType.int) ∈ zWW := zw_tab (zw_4 (List.mem_of_getElem? (i := 99) rfl)) rfl
theorem mw_820 : Cond.methodLink "SpanningProbesLaw" 81 ({ cls := "SpanningProbesModel", name := "count", desc := "(I)I" } : MethodName) ∈ zWW := zw_tab (zw_4 (List.mem_of_getElem? (i := 100) rfl)) rfl
theorem mw_821 : Cond.instanceMethod ({ cls := "SpanningProbesModel", name := "count", desc := "(I)I" } : MethodName) ∈ zWW := zw_tab (zw_4 (List.mem_of_getElem? (i := 101) rfl)) rfl
theorem mw_822 : Cond.selects "SpanningProbesModel" ({ cls := "SpanningProbesModel", name := "count", desc := "(I)I" } : MethodName) ({ cls := "SpanningProbesModel", name := "count", desc := "(I)I" } : MethodName) ∈ zWW := zw_tab (zw_4 (List.mem_of_getElem? (i := 102) rfl)) rfl
theorem mw_823 : Cond.code ({ cls := "SpanningProbesModel", name := "count", desc := "(I)I" } : MethodName) prog_9_method_40_code 2 (Option.some FieldType.int) ∈ zWW := zw_tab (zw_4 (List.mem_of_getElem? (i := 103) rfl)) rfl
theorem mw_824 : Cond.methodLink "SpanningProbesLaw" 85 ({ cls := "SpanningProbesModel", name := "visits", desc := "(I)I" } : MethodName) ∈ zWW := zw_tab (zw_4 (List.mem_of_getElem? (i := 104) rfl)) rfl
theorem mw_825 : Cond.instanceMethod ({ cls := "SpanningProbesModel", name := "visits", desc := "(I)I" } : MethodName) ∈ zWW := zw_tab (zw_4 (List.mem_of_getElem? (i := 105) rfl)) rfl
theorem mw_826 : Cond.selects "SpanningProbesModel" ({ cls := "SpanningProbesModel", name := "visits", desc := "(I)I" } : MethodName) ({ cls := "SpanningProbesModel", name := "visits", desc := "(I)I" } : MethodName) ∈ zWW := zw_tab (zw_4 (List.mem_of_getElem? (i := 106) rfl)) rfl
theorem mw_827 : Cond.code ({ cls := "SpanningProbesModel", name := "visits", desc := "(I)I" } : MethodName) prog_9_method_41_code 2 (Option.some FieldType.int) ∈ zWW := zw_tab (zw_4 (List.mem_of_getElem? (i := 107) rfl)) rfl
theorem mw_828 : Cond.methodLink "SpanningProbesLaw" 89 ({ cls := "SpanningProbesModel", name := "passed", desc := "(I)I" } : MethodName) ∈ zWW := zw_tab (zw_4 (List.mem_of_getElem? (i := 108) rfl)) rfl
theorem mw_829 : Cond.instanceMethod ({ cls := "SpanningProbesModel", name := "passed", desc := "(I)I" } : MethodName) ∈ zWW := zw_tab (zw_4 (List.mem_of_getElem? (i := 109) rfl)) rfl
theorem mw_830 : Cond.selects "SpanningProbesModel" ({ cls := "SpanningProbesModel", name := "passed", desc := "(I)I" } : MethodName) ({ cls := "SpanningProbesModel", name := "passed", desc := "(I)I" } : MethodName) ∈ zWW := zw_tab (zw_4 (List.mem_of_getElem? (i := 110) rfl)) rfl
theorem mw_831 : Cond.code ({ cls := "SpanningProbesModel", name := "passed", desc := "(I)I" } : MethodName) prog_9_method_42_code 2 (Option.some FieldType.int) ∈ zWW := zw_tab (zw_4 (List.mem_of_getElem? (i := 111) rfl)) rfl
theorem mw_832 : Cond.methodLink "SpanningProbesLaw" 93 ({ cls := "SpanningProbesModel", name := "along", desc := "(II)I" } : MethodName) ∈ zWW := zw_tab (zw_4 (List.mem_of_getElem? (i := 112) rfl)) rfl
theorem mw_833 : Cond.instanceMethod ({ cls := "SpanningProbesModel", name := "along", desc := "(II)I" } : MethodName) ∈ zWW := zw_tab (zw_4 (List.mem_of_getElem? (i := 113) rfl)) rfl
theorem mw_834 : Cond.selects "SpanningProbesModel" ({ cls := "SpanningProbesModel", name := "along", desc := "(II)I" } : MethodName) ({ cls := "SpanningProbesModel", name := "along", desc := "(II)I" } : MethodName) ∈ zWW := zw_tab (zw_4 (List.mem_of_getElem? (i := 114) rfl)) rfl
theorem mw_835 : Cond.code ({ cls := "SpanningProbesModel", name := "along", desc := "(II)I" } : MethodName) prog_9_method_43_code 5 (Option.some FieldType.int) ∈ zWW := zw_tab (zw_4 (List.mem_of_getElem? (i := 115) rfl)) rfl
theorem mw_836 : Cond.methodLink "SpanningProbesLaw" 97 ({ cls := "SpanningProbesModel", name := "stopped", desc := "(I)I" } : MethodName) ∈ zWW := zw_tab (zw_4 (List.mem_of_getElem? (i := 116) rfl)) rfl
theorem mw_837 : Cond.instanceMethod ({ cls := "SpanningProbesModel", name := "stopped", desc := "(I)I" } : MethodName) ∈ zWW := zw_tab (zw_4 (List.mem_of_getElem? (i := 117) rfl)) rfl
theorem mw_838 : Cond.selects "SpanningProbesModel" ({ cls := "SpanningProbesModel", name := "stopped", desc := "(I)I" } : MethodName) ({ cls := "SpanningProbesModel", name := "stopped", desc := "(I)I" } : MethodName) ∈ zWW := zw_tab (zw_4 (List.mem_of_getElem? (i := 118) rfl)) rfl
theorem mw_839 : Cond.code ({ cls := "SpanningProbesModel", name := "stopped", desc := "(I)I" } : MethodName) prog_9_method_44_code 2 (Option.some FieldType.int) ∈ zWW := zw_tab (zw_4 (List.mem_of_getElem? (i := 119) rfl)) rfl
theorem mw_840 : Cond.methodLink "SpanningProbesLaw" 101 ({ cls := "SpanningProbesModel", name := "covered", desc := "(I)I" } : MethodName) ∈ zWW := zw_tab (zw_4 (List.mem_of_getElem? (i := 120) rfl)) rfl
theorem mw_841 : Cond.instanceMethod ({ cls := "SpanningProbesModel", name := "covered", desc := "(I)I" } : MethodName) ∈ zWW := zw_tab (zw_4 (List.mem_of_getElem? (i := 121) rfl)) rfl
theorem mw_842 : Cond.selects "SpanningProbesModel" ({ cls := "SpanningProbesModel", name := "covered", desc := "(I)I" } : MethodName) ({ cls := "SpanningProbesModel", name := "covered", desc := "(I)I" } : MethodName) ∈ zWW := zw_tab (zw_4 (List.mem_of_getElem? (i := 122) rfl)) rfl
theorem mw_843 : Cond.code ({ cls := "SpanningProbesModel", name := "covered", desc := "(I)I" } : MethodName) prog_9_method_45_code 4 (Option.some FieldType.int) ∈ zWW := zw_tab (zw_4 (List.mem_of_getElem? (i := 123) rfl)) rfl
theorem mw_844 : Cond.methodLink "SpanningProbesLaw" 105 ({ cls := "SpanningProbesModel", name := "clear", desc := "()V" } : MethodName) ∈ zWW := zw_tab (zw_4 (List.mem_of_getElem? (i := 124) rfl)) rfl
theorem mw_845 : Cond.instanceMethod ({ cls := "SpanningProbesModel", name := "clear", desc := "()V" } : MethodName) ∈ zWW := zw_tab (zw_4 (List.mem_of_getElem? (i := 125) rfl)) rfl
theorem mw_846 : Cond.selects "SpanningProbesModel" ({ cls := "SpanningProbesModel", name := "clear", desc := "()V" } : MethodName) ({ cls := "SpanningProbesModel", name := "clear", desc := "()V" } : MethodName) ∈ zWW := zw_tab (zw_4 (List.mem_of_getElem? (i := 126) rfl)) rfl
theorem mw_847 : Cond.code ({ cls := "SpanningProbesModel", name := "clear", desc := "()V" } : MethodName) prog_9_method_46_code 2 (Option.none : Option Jvm.ClassFile.FieldType) ∈ zWW := zw_tab (zw_4 (List.mem_of_getElem? (i := 127) rfl)) rfl
theorem mp_1_0 : Cond.selects "SpanningProbes$Search" ({ cls := "SpanningProbes$Search", name := "enter", desc := "(I)V" } : MethodName) ({ cls := "SpanningProbes$Search", name := "enter", desc := "(I)V" } : MethodName) ∈ zWW := zw_prv (q := (⟨"SpanningProbes$Search", "enter", "(I)V"⟩, 8)) (List.mem_append_left _ (List.mem_of_getElem? (i := 0) rfl)) rfl
theorem mp_1_1 : Cond.selects "SpanningProbes$Search" ({ cls := "SpanningProbes$Search", name := "lookAt", desc := "(I)V" } : MethodName) ({ cls := "SpanningProbes$Search", name := "lookAt", desc := "(I)V" } : MethodName) ∈ zWW := zw_prv (q := (⟨"SpanningProbes$Search", "lookAt", "(I)V"⟩, 8)) (List.mem_append_left _ (List.mem_of_getElem? (i := 1) rfl)) rfl
theorem mp_1_2 : Cond.selects "SpanningProbes$Links" ({ cls := "SpanningProbes$Links", name := "numberFrom", desc := "(I)I" } : MethodName) ({ cls := "SpanningProbes$Links", name := "numberFrom", desc := "(I)I" } : MethodName) ∈ zWW := zw_prv (q := (⟨"SpanningProbes$Links", "numberFrom", "(I)I"⟩, 9)) (List.mem_append_left _ (List.mem_of_getElem? (i := 2) rfl)) rfl
theorem mp_1_3 : Cond.selects "SpanningProbes$Links" ({ cls := "SpanningProbes$Links", name := "numberStarts", desc := "(I)I" } : MethodName) ({ cls := "SpanningProbes$Links", name := "numberStarts", desc := "(I)I" } : MethodName) ∈ zWW := zw_prv (q := (⟨"SpanningProbes$Links", "numberStarts", "(I)I"⟩, 9)) (List.mem_append_left _ (List.mem_of_getElem? (i := 3) rfl)) rfl
theorem mp_1_4 : Cond.selects "SpanningProbes$Loops" ({ cls := "SpanningProbes$Loops", name := "loopOf", desc := "(I)I" } : MethodName) ({ cls := "SpanningProbes$Loops", name := "loopOf", desc := "(I)I" } : MethodName) ∈ zWW := zw_prv (q := (⟨"SpanningProbes$Loops", "loopOf", "(I)I"⟩, 4)) (List.mem_append_left _ (List.mem_of_getElem? (i := 4) rfl)) rfl
theorem mp_1_5 : Cond.selects "SpanningProbes$Loops" ({ cls := "SpanningProbes$Loops", name := "deepen", desc := "(I)V" } : MethodName) ({ cls := "SpanningProbes$Loops", name := "deepen", desc := "(I)V" } : MethodName) ∈ zWW := zw_prv (q := (⟨"SpanningProbes$Loops", "deepen", "(I)V"⟩, 4)) (List.mem_append_left _ (List.mem_of_getElem? (i := 5) rfl)) rfl
theorem mp_1_6 : Cond.selects "SpanningProbes$Loops" ({ cls := "SpanningProbes$Loops", name := "putInOrder", desc := "()V" } : MethodName) ({ cls := "SpanningProbes$Loops", name := "putInOrder", desc := "()V" } : MethodName) ∈ zWW := zw_prv (q := (⟨"SpanningProbes$Loops", "putInOrder", "()V"⟩, 4)) (List.mem_append_left _ (List.mem_of_getElem? (i := 6) rfl)) rfl
theorem mp_1_7 : Cond.selects "SpanningProbes$Loops" ({ cls := "SpanningProbes$Loops", name := "weightOf", desc := "(I)I" } : MethodName) ({ cls := "SpanningProbes$Loops", name := "weightOf", desc := "(I)I" } : MethodName) ∈ zWW := zw_prv (q := (⟨"SpanningProbes$Loops", "weightOf", "(I)I"⟩, 4)) (List.mem_append_left _ (List.mem_of_getElem? (i := 7) rfl)) rfl
theorem mp_1_8 : Cond.selects "SpanningProbes$Tree" ({ cls := "SpanningProbes$Tree", name := "join", desc := "(II)Z" } : MethodName) ({ cls := "SpanningProbes$Tree", name := "join", desc := "(II)Z" } : MethodName) ∈ zWW := zw_prv (q := (⟨"SpanningProbes$Tree", "join", "(II)Z"⟩, 3)) (List.mem_append_left _ (List.mem_of_getElem? (i := 8) rfl)) rfl
theorem mp_1_9 : Cond.selects "SpanningProbes$Links" ({ cls := "SpanningProbes$Links", name := "leaveOutBack", desc := "([I)I" } : MethodName) ({ cls := "SpanningProbes$Links", name := "leaveOutBack", desc := "([I)I" } : MethodName) ∈ zWW := zw_prv (q := (⟨"SpanningProbes$Links", "leaveOutBack", "([I)I"⟩, 9)) (List.mem_append_left _ (List.mem_of_getElem? (i := 9) rfl)) rfl
theorem mp_1_10 : Cond.selects "SpanningProbes$Links" ({ cls := "SpanningProbes$Links", name := "spreadOver", desc := "(II)I" } : MethodName) ({ cls := "SpanningProbes$Links", name := "spreadOver", desc := "(II)I" } : MethodName) ∈ zWW := zw_prv (q := (⟨"SpanningProbes$Links", "spreadOver", "(II)I"⟩, 9)) (List.mem_append_left _ (List.mem_of_getElem? (i := 10) rfl)) rfl
theorem mp_1_11 : Cond.selects "SpanningProbes" ({ cls := "SpanningProbes", name := "knowsEdge", desc := "(I)Z" } : MethodName) ({ cls := "SpanningProbes", name := "knowsEdge", desc := "(I)Z" } : MethodName) ∈ zWW := zw_prv (q := (⟨"SpanningProbes", "knowsEdge", "(I)Z"⟩, 9)) (List.mem_append_left _ (List.mem_of_getElem? (i := 11) rfl)) rfl
theorem mp_1_12 : Cond.selects "SpanningProbes" ({ cls := "SpanningProbes", name := "knowsBlock", desc := "(I)Z" } : MethodName) ({ cls := "SpanningProbes", name := "knowsBlock", desc := "(I)Z" } : MethodName) ∈ zWW := zw_prv (q := (⟨"SpanningProbes", "knowsBlock", "(I)Z"⟩, 9)) (List.mem_append_left _ (List.mem_of_getElem? (i := 12) rfl)) rfl
theorem mp_1_13 : Cond.selects "SpanningProbes" ({ cls := "SpanningProbes", name := "isUnderWay", desc := "()Z" } : MethodName) ({ cls := "SpanningProbes", name := "isUnderWay", desc := "()Z" } : MethodName) ∈ zWW := zw_prv (q := (⟨"SpanningProbes", "isUnderWay", "()Z"⟩, 9)) (List.mem_append_left _ (List.mem_of_getElem? (i := 13) rfl)) rfl
theorem mp_1_14 : Cond.selects "SpanningProbes" ({ cls := "SpanningProbes", name := "pass", desc := "(I)V" } : MethodName) ({ cls := "SpanningProbes", name := "pass", desc := "(I)V" } : MethodName) ∈ zWW := zw_prv (q := (⟨"SpanningProbes", "pass", "(I)V"⟩, 9)) (List.mem_append_left _ (List.mem_of_getElem? (i := 14) rfl)) rfl
theorem mp_1_15 : Cond.selects "SpanningProbes" ({ cls := "SpanningProbes", name := "completeWay", desc := "()V" } : MethodName) ({ cls := "SpanningProbes", name := "completeWay", desc := "()V" } : MethodName) ∈ zWW := zw_prv (q := (⟨"SpanningProbes", "completeWay", "()V"⟩, 9)) (List.mem_append_left _ (List.mem_of_getElem? (i := 15) rfl)) rfl
theorem mp_2_0 : Cond.selects "SpanningProbes" ({ cls := "SpanningProbes", name := "knowsWay", desc := "(I)Z" } : MethodName) ({ cls := "SpanningProbes", name := "knowsWay", desc := "(I)Z" } : MethodName) ∈ zWW := zw_prv (q := (⟨"SpanningProbes", "knowsWay", "(I)Z"⟩, 9)) (List.mem_append_right _ (List.mem_append_left _ (List.mem_of_getElem? (i := 0) rfl))) rfl
theorem mp_2_1 : Cond.selects "SpanningProbes" ({ cls := "SpanningProbes", name := "endRun", desc := "()V" } : MethodName) ({ cls := "SpanningProbes", name := "endRun", desc := "()V" } : MethodName) ∈ zWW := zw_prv (q := (⟨"SpanningProbes", "endRun", "()V"⟩, 9)) (List.mem_append_right _ (List.mem_append_left _ (List.mem_of_getElem? (i := 1) rfl))) rfl
theorem mp_2_2 : Cond.selects "SpanningProbes$Counters" ({ cls := "SpanningProbes$Counters", name := "runsLeftIn", desc := "(II)I" } : MethodName) ({ cls := "SpanningProbes$Counters", name := "runsLeftIn", desc := "(II)I" } : MethodName) ∈ zWW := zw_prv (q := (⟨"SpanningProbes$Counters", "runsLeftIn", "(II)I"⟩, 6)) (List.mem_append_right _ (List.mem_append_left _ (List.mem_of_getElem? (i := 2) rfl))) rfl
theorem mp_2_3 : Cond.selects "SpanningProbes$Counters" ({ cls := "SpanningProbes$Counters", name := "hitsOutOf", desc := "(I)I" } : MethodName) ({ cls := "SpanningProbes$Counters", name := "hitsOutOf", desc := "(I)I" } : MethodName) ∈ zWW := zw_prv (q := (⟨"SpanningProbes$Counters", "hitsOutOf", "(I)I"⟩, 6)) (List.mem_append_right _ (List.mem_append_left _ (List.mem_of_getElem? (i := 3) rfl))) rfl
theorem mp_2_4 : Cond.selects "SpanningProbes$Counters" ({ cls := "SpanningProbes$Counters", name := "passesInto", desc := "(II)I" } : MethodName) ({ cls := "SpanningProbes$Counters", name := "passesInto", desc := "(II)I" } : MethodName) ∈ zWW := zw_prv (q := (⟨"SpanningProbes$Counters", "passesInto", "(II)I"⟩, 6)) (List.mem_append_right _ (List.mem_append_left _ (List.mem_of_getElem? (i := 4) rfl))) rfl
theorem mp_2_5 : Cond.selects "SpanningProbes$Links" ({ cls := "SpanningProbes$Links", name := "linkFrom", desc := "(II)I" } : MethodName) ({ cls := "SpanningProbes$Links", name := "linkFrom", desc := "(II)I" } : MethodName) ∈ zWW := zw_prv (q := (⟨"SpanningProbes$Links", "linkFrom", "(II)I"⟩, 9)) (List.mem_append_right _ (List.mem_append_left _ (List.mem_of_getElem? (i := 5) rfl))) rfl
theorem mp_2_6 : Cond.selects "SpanningProbesModel" ({ cls := "SpanningProbesModel", name := "block", desc := "(I)Z" } : MethodName) ({ cls := "SpanningProbesModel", name := "block", desc := "(I)Z" } : MethodName) ∈ zWW := zw_prv (q := (⟨"SpanningProbesModel", "block", "(I)Z"⟩, 38)) (List.mem_append_right _ (List.mem_append_left _ (List.mem_of_getElem? (i := 6) rfl))) rfl
theorem mp_2_7 : Cond.selects "SpanningProbesModel" ({ cls := "SpanningProbesModel", name := "search", desc := "()V" } : MethodName) ({ cls := "SpanningProbesModel", name := "search", desc := "()V" } : MethodName) ∈ zWW := zw_prv (q := (⟨"SpanningProbesModel", "search", "()V"⟩, 38)) (List.mem_append_right _ (List.mem_append_left _ (List.mem_of_getElem? (i := 7) rfl))) rfl
theorem mp_2_8 : Cond.selects "SpanningProbesModel" ({ cls := "SpanningProbesModel", name := "look", desc := "(I)I" } : MethodName) ({ cls := "SpanningProbesModel", name := "look", desc := "(I)I" } : MethodName) ∈ zWW := zw_prv (q := (⟨"SpanningProbesModel", "look", "(I)I"⟩, 38)) (List.mem_append_right _ (List.mem_append_left _ (List.mem_of_getElem? (i := 8) rfl))) rfl
theorem mp_2_9 : Cond.selects "SpanningProbesModel" ({ cls := "SpanningProbesModel", name := "connected", desc := "()Z" } : MethodName) ({ cls := "SpanningProbesModel", name := "connected", desc := "()Z" } : MethodName) ∈ zWW := zw_prv (q := (⟨"SpanningProbesModel", "connected", "()Z"⟩, 38)) (List.mem_append_right _ (List.mem_append_left _ (List.mem_of_getElem? (i := 9) rfl))) rfl
theorem mp_2_10 : Cond.selects "SpanningProbesModel" ({ cls := "SpanningProbesModel", name := "spread", desc := "(I)V" } : MethodName) ({ cls := "SpanningProbesModel", name := "spread", desc := "(I)V" } : MethodName) ∈ zWW := zw_prv (q := (⟨"SpanningProbesModel", "spread", "(I)V"⟩, 38)) (List.mem_append_right _ (List.mem_append_left _ (List.mem_of_getElem? (i := 10) rfl))) rfl
theorem mp_2_11 : Cond.selects "SpanningProbesModel" ({ cls := "SpanningProbesModel", name := "layLinks", desc := "()V" } : MethodName) ({ cls := "SpanningProbesModel", name := "layLinks", desc := "()V" } : MethodName) ∈ zWW := zw_prv (q := (⟨"SpanningProbesModel", "layLinks", "()V"⟩, 38)) (List.mem_append_right _ (List.mem_append_left _ (List.mem_of_getElem? (i := 11) rfl))) rfl
theorem mp_2_12 : Cond.selects "SpanningProbesModel" ({ cls := "SpanningProbesModel", name := "rowsBefore", desc := "(II)I" } : MethodName) ({ cls := "SpanningProbesModel", name := "rowsBefore", desc := "(II)I" } : MethodName) ∈ zWW := zw_prv (q := (⟨"SpanningProbesModel", "rowsBefore", "(II)I"⟩, 38)) (List.mem_append_right _ (List.mem_append_left _ (List.mem_of_getElem? (i := 12) rfl))) rfl
theorem mp_2_13 : Cond.selects "SpanningProbesModel" ({ cls := "SpanningProbesModel", name := "deepen", desc := "()V" } : MethodName) ({ cls := "SpanningProbesModel", name := "deepen", desc := "()V" } : MethodName) ∈ zWW := zw_prv (q := (⟨"SpanningProbesModel", "deepen", "()V"⟩, 38)) (List.mem_append_right _ (List.mem_append_left _ (List.mem_of_getElem? (i := 13) rfl))) rfl
theorem mp_2_14 : Cond.selects "SpanningProbesModel" ({ cls := "SpanningProbesModel", name := "sort", desc := "()V" } : MethodName) ({ cls := "SpanningProbesModel", name := "sort", desc := "()V" } : MethodName) ∈ zWW := zw_prv (q := (⟨"SpanningProbesModel", "sort", "()V"⟩, 38)) (List.mem_append_right _ (List.mem_append_left _ (List.mem_of_getElem? (i := 14) rfl))) rfl
theorem mp_2_15 : Cond.selects "SpanningProbesModel" ({ cls := "SpanningProbesModel", name := "weight", desc := "(I)I" } : MethodName) ({ cls := "SpanningProbesModel", name := "weight", desc := "(I)I" } : MethodName) ∈ zWW := zw_prv (q := (⟨"SpanningProbesModel", "weight", "(I)I"⟩, 38)) (List.mem_append_right _ (List.mem_append_left _ (List.mem_of_getElem? (i := 15) rfl))) rfl
theorem mp_3_0 : Cond.selects "SpanningProbesModel" ({ cls := "SpanningProbesModel", name := "growTrees", desc := "()V" } : MethodName) ({ cls := "SpanningProbesModel", name := "growTrees", desc := "()V" } : MethodName) ∈ zWW := zw_prv (q := (⟨"SpanningProbesModel", "growTrees", "()V"⟩, 38)) (List.mem_append_right _ (List.mem_append_right _ (List.mem_of_getElem? (i := 0) rfl))) rfl
theorem mp_3_1 : Cond.selects "SpanningProbesModel" ({ cls := "SpanningProbesModel", name := "join", desc := "(II)Z" } : MethodName) ({ cls := "SpanningProbesModel", name := "join", desc := "(II)Z" } : MethodName) ∈ zWW := zw_prv (q := (⟨"SpanningProbesModel", "join", "(II)Z"⟩, 38)) (List.mem_append_right _ (List.mem_append_right _ (List.mem_of_getElem? (i := 1) rfl))) rfl
theorem mp_3_2 : Cond.selects "SpanningProbesModel" ({ cls := "SpanningProbesModel", name := "joined", desc := "(II)Z" } : MethodName) ({ cls := "SpanningProbesModel", name := "joined", desc := "(II)Z" } : MethodName) ∈ zWW := zw_prv (q := (⟨"SpanningProbesModel", "joined", "(II)Z"⟩, 38)) (List.mem_append_right _ (List.mem_append_right _ (List.mem_of_getElem? (i := 2) rfl))) rfl
theorem mp_3_3 : Cond.selects "SpanningProbesModel" ({ cls := "SpanningProbesModel", name := "findBases", desc := "()V" } : MethodName) ({ cls := "SpanningProbesModel", name := "findBases", desc := "()V" } : MethodName) ∈ zWW := zw_prv (q := (⟨"SpanningProbesModel", "findBases", "()V"⟩, 38)) (List.mem_append_right _ (List.mem_append_right _ (List.mem_of_getElem? (i := 3) rfl))) rfl
theorem mp_3_4 : Cond.selects "SpanningProbesModel" ({ cls := "SpanningProbesModel", name := "value", desc := "(I)I" } : MethodName) ({ cls := "SpanningProbesModel", name := "value", desc := "(I)I" } : MethodName) ∈ zWW := zw_prv (q := (⟨"SpanningProbesModel", "value", "(I)I"⟩, 38)) (List.mem_append_right _ (List.mem_append_right _ (List.mem_of_getElem? (i := 4) rfl))) rfl
theorem mp_3_5 : Cond.selects "SpanningProbesModel" ({ cls := "SpanningProbesModel", name := "listWays", desc := "()V" } : MethodName) ({ cls := "SpanningProbesModel", name := "listWays", desc := "()V" } : MethodName) ∈ zWW := zw_prv (q := (⟨"SpanningProbesModel", "listWays", "()V"⟩, 38)) (List.mem_append_right _ (List.mem_append_right _ (List.mem_of_getElem? (i := 5) rfl))) rfl
theorem mp_3_6 : Cond.selects "SpanningProbesModel" ({ cls := "SpanningProbesModel", name := "complete", desc := "()V" } : MethodName) ({ cls := "SpanningProbesModel", name := "complete", desc := "()V" } : MethodName) ∈ zWW := zw_prv (q := (⟨"SpanningProbesModel", "complete", "()V"⟩, 38)) (List.mem_append_right _ (List.mem_append_right _ (List.mem_of_getElem? (i := 6) rfl))) rfl
theorem mp_3_7 : Cond.selects "SpanningProbesModel" ({ cls := "SpanningProbesModel", name := "linkAfter", desc := "(II)I" } : MethodName) ({ cls := "SpanningProbesModel", name := "linkAfter", desc := "(II)I" } : MethodName) ∈ zWW := zw_prv (q := (⟨"SpanningProbesModel", "linkAfter", "(II)I"⟩, 38)) (List.mem_append_right _ (List.mem_append_right _ (List.mem_of_getElem? (i := 7) rfl))) rfl
theorem mp_3_8 : Cond.selects "SpanningProbesModel" ({ cls := "SpanningProbesModel", name := "advance", desc := "()Z" } : MethodName) ({ cls := "SpanningProbesModel", name := "advance", desc := "()Z" } : MethodName) ∈ zWW := zw_prv (q := (⟨"SpanningProbesModel", "advance", "()Z"⟩, 38)) (List.mem_append_right _ (List.mem_append_right _ (List.mem_of_getElem? (i := 8) rfl))) rfl
theorem mp_3_9 : Cond.selects "SpanningProbesModel" ({ cls := "SpanningProbesModel", name := "known", desc := "(I)Z" } : MethodName) ({ cls := "SpanningProbesModel", name := "known", desc := "(I)Z" } : MethodName) ∈ zWW := zw_prv (q := (⟨"SpanningProbesModel", "known", "(I)Z"⟩, 38)) (List.mem_append_right _ (List.mem_append_right _ (List.mem_of_getElem? (i := 9) rfl))) rfl
theorem mp_3_10 : Cond.selects "SpanningProbesModel" ({ cls := "SpanningProbesModel", name := "added", desc := "(I)I" } : MethodName) ({ cls := "SpanningProbesModel", name := "added", desc := "(I)I" } : MethodName) ∈ zWW := zw_prv (q := (⟨"SpanningProbesModel", "added", "(I)I"⟩, 38)) (List.mem_append_right _ (List.mem_append_right _ (List.mem_of_getElem? (i := 10) rfl))) rfl
theorem mp_3_11 : Cond.selects "SpanningProbesModel" ({ cls := "SpanningProbesModel", name := "pass", desc := "(I)V" } : MethodName) ({ cls := "SpanningProbesModel", name := "pass", desc := "(I)V" } : MethodName) ∈ zWW := zw_prv (q := (⟨"SpanningProbesModel", "pass", "(I)V"⟩, 38)) (List.mem_append_right _ (List.mem_append_right _ (List.mem_of_getElem? (i := 11) rfl))) rfl
theorem mp_3_12 : Cond.selects "SpanningProbesModel" ({ cls := "SpanningProbesModel", name := "note", desc := "(I)V" } : MethodName) ({ cls := "SpanningProbesModel", name := "note", desc := "(I)V" } : MethodName) ∈ zWW := zw_prv (q := (⟨"SpanningProbesModel", "note", "(I)V"⟩, 38)) (List.mem_append_right _ (List.mem_append_right _ (List.mem_of_getElem? (i := 12) rfl))) rfl
theorem mp_3_13 : Cond.selects "SpanningProbesModel" ({ cls := "SpanningProbesModel", name := "countWay", desc := "()V" } : MethodName) ({ cls := "SpanningProbesModel", name := "countWay", desc := "()V" } : MethodName) ∈ zWW := zw_prv (q := (⟨"SpanningProbesModel", "countWay", "()V"⟩, 38)) (List.mem_append_right _ (List.mem_append_right _ (List.mem_of_getElem? (i := 13) rfl))) rfl
theorem mp_3_14 : Cond.selects "SpanningProbesModel" ({ cls := "SpanningProbesModel", name := "pick", desc := "(I)I" } : MethodName) ({ cls := "SpanningProbesModel", name := "pick", desc := "(I)I" } : MethodName) ∈ zWW := zw_prv (q := (⟨"SpanningProbesModel", "pick", "(I)I"⟩, 38)) (List.mem_append_right _ (List.mem_append_right _ (List.mem_of_getElem? (i := 14) rfl))) rfl
end
section
/-! names: classes, fields, methods, room -/
def RG : String := "SpanningProbes$Graph"
def TG : u_T := fun k => match k with
  | 0 => ("SpanningProbes$Graph", "blocks", "I", true)
  | 1 => ("SpanningProbes$Graph", "from", "[I", true)
  | 2 => ("SpanningProbes$Graph", "to", "[I", true)
  | _ => ("SpanningProbes$Graph", "edges", "I", false)
def tyG : Nat → FieldType := fun k => match k with
  | 0 => .int
  | 1 => .array .int
  | 2 => .array .int
  | _ => .int
theorem nmG : ∀ a, a < 4 → ∀ b, b < 4 → a ≠ b → (TG a).2.1 ≠ (TG b).2.1 := by decide +kernel
theorem tyG_ok : ∀ k, k < 4 → parseFieldDescriptor (TG k).2.2.1 = some (tyG k) := by decide +kernel
theorem inG : ∀ w ∈ u_ws RG TG 4, w ∈ zWW := by
  intro w hw
  obtain ⟨k, hk, rfl⟩ := List.mem_map.mp hw
  have hk := List.mem_range.mp hk
  match k, hk with
  | 0, _ => exact mw_57
  | 1, _ => exact mw_59
  | 2, _ => exact mw_61
  | 3, _ => exact mw_63
  | (k + 4), h => exact absurd h (by omega)
def RS : String := "SpanningProbes$Search"
def TS : u_T := fun k => match k with
  | 0 => ("SpanningProbes$Search", "graph", "LSpanningProbes$Graph;", true)
  | 1 => ("SpanningProbes$Search", "isBack", "[Z", true)
  | 2 => ("SpanningProbes$Search", "finished", "[I", true)
  | 3 => ("SpanningProbes$Search", "stack", "[I", true)
  | 4 => ("SpanningProbes$Search", "lookedUpTo", "[I", true)
  | 5 => ("SpanningProbes$Search", "met", "I", false)
  | 6 => ("SpanningProbes$Search", "open", "I", false)
  | _ => ("SpanningProbes$Search", "height", "I", false)
def tyS : Nat → FieldType := fun k => match k with
  | 0 => .object "SpanningProbes$Graph"
  | 1 => .array .boolean
  | 2 => .array .int
  | 3 => .array .int
  | 4 => .array .int
  | 5 => .int
  | 6 => .int
  | _ => .int
theorem nmS : ∀ a, a < 8 → ∀ b, b < 8 → a ≠ b → (TS a).2.1 ≠ (TS b).2.1 := by decide +kernel
theorem tyS_ok : ∀ k, k < 8 → parseFieldDescriptor (TS k).2.2.1 = some (tyS k) := by decide +kernel
theorem inS : ∀ w ∈ u_ws RS TS 8, w ∈ zWW := by
  intro w hw
  obtain ⟨k, hk, rfl⟩ := List.mem_map.mp hw
  have hk := List.mem_range.mp hk
  match k, hk with
  | 0, _ => exact mw_85
  | 1, _ => exact mw_87
  | 2, _ => exact mw_89
  | 3, _ => exact mw_91
  | 4, _ => exact mw_93
  | 5, _ => exact mw_95
  | 6, _ => exact mw_97
  | 7, _ => exact mw_99
  | (k + 8), h => exact absurd h (by omega)
def RO : String := "SpanningProbes$Loops"
def TO : u_T := fun k => match k with
  | 0 => ("SpanningProbes$Loops", "graph", "LSpanningProbes$Graph;", true)
  | 1 => ("SpanningProbes$Loops", "search", "LSpanningProbes$Search;", true)
  | 2 => ("SpanningProbes$Loops", "depths", "[I", true)
  | _ => ("SpanningProbes$Loops", "order", "[I", true)
def tyO : Nat → FieldType := fun k => match k with
  | 0 => .object "SpanningProbes$Graph"
  | 1 => .object "SpanningProbes$Search"
  | 2 => .array .int
  | _ => .array .int
theorem nmO : ∀ a, a < 4 → ∀ b, b < 4 → a ≠ b → (TO a).2.1 ≠ (TO b).2.1 := by decide +kernel
theorem tyO_ok : ∀ k, k < 4 → parseFieldDescriptor (TO k).2.2.1 = some (tyO k) := by decide +kernel
theorem inO : ∀ w ∈ u_ws RO TO 4, w ∈ zWW := by
  intro w hw
  obtain ⟨k, hk, rfl⟩ := List.mem_map.mp hw
  have hk := List.mem_range.mp hk
  match k, hk with
  | 0, _ => exact mw_115
  | 1, _ => exact mw_117
  | 2, _ => exact mw_119
  | 3, _ => exact mw_121
  | (k + 4), h => exact absurd h (by omega)
def RT : String := "SpanningProbes$Tree"
def TT : u_T := fun k => match k with
  | 0 => ("SpanningProbes$Tree", "graph", "LSpanningProbes$Graph;", true)
  | 1 => ("SpanningProbes$Tree", "has", "[Z", true)
  | _ => ("SpanningProbes$Tree", "group", "[I", true)
def tyT : Nat → FieldType := fun k => match k with
  | 0 => .object "SpanningProbes$Graph"
  | 1 => .array .boolean
  | _ => .array .int
theorem nmT : ∀ a, a < 3 → ∀ b, b < 3 → a ≠ b → (TT a).2.1 ≠ (TT b).2.1 := by decide +kernel
theorem tyT_ok : ∀ k, k < 3 → parseFieldDescriptor (TT k).2.2.1 = some (tyT k) := by decide +kernel
theorem inT : ∀ w ∈ u_ws RT TT 3, w ∈ zWW := by
  intro w hw
  obtain ⟨k, hk, rfl⟩ := List.mem_map.mp hw
  have hk := List.mem_range.mp hk
  match k, hk with
  | 0, _ => exact mw_136
  | 1, _ => exact mw_138
  | 2, _ => exact mw_140
  | (k + 3), h => exact absurd h (by omega)
def RK : String := "SpanningProbes$Links"
def TK : u_T := fun k => match k with
  | 0 => ("SpanningProbes$Links", "graph", "LSpanningProbes$Graph;", true)
  | 1 => ("SpanningProbes$Links", "search", "LSpanningProbes$Search;", true)
  | 2 => ("SpanningProbes$Links", "tree", "LSpanningProbes$Tree;", true)
  | 3 => ("SpanningProbes$Links", "rows", "[I", true)
  | 4 => ("SpanningProbes$Links", "values", "[I", true)
  | 5 => ("SpanningProbes$Links", "startValues", "[I", true)
  | 6 => ("SpanningProbes$Links", "bases", "[I", true)
  | 7 => ("SpanningProbes$Links", "order", "[I", true)
  | _ => ("SpanningProbes$Links", "ways", "I", false)
def tyK : Nat → FieldType := fun k => match k with
  | 0 => .object "SpanningProbes$Graph"
  | 1 => .object "SpanningProbes$Search"
  | 2 => .object "SpanningProbes$Tree"
  | 3 => .array .int
  | 4 => .array .int
  | 5 => .array .int
  | 6 => .array .int
  | 7 => .array .int
  | _ => .int
theorem nmK : ∀ a, a < 9 → ∀ b, b < 9 → a ≠ b → (TK a).2.1 ≠ (TK b).2.1 := by decide +kernel
theorem tyK_ok : ∀ k, k < 9 → parseFieldDescriptor (TK k).2.2.1 = some (tyK k) := by decide +kernel
theorem inK : ∀ w ∈ u_ws RK TK 9, w ∈ zWW := by
  intro w hw
  obtain ⟨k, hk, rfl⟩ := List.mem_map.mp hw
  have hk := List.mem_range.mp hk
  match k, hk with
  | 0, _ => exact mw_161
  | 1, _ => exact mw_163
  | 2, _ => exact mw_165
  | 3, _ => exact mw_167
  | 4, _ => exact mw_169
  | 5, _ => exact mw_171
  | 6, _ => exact mw_173
  | 7, _ => exact mw_175
  | 8, _ => exact mw_177
  | (k + 9), h => exact absurd h (by omega)
def RC : String := "SpanningProbes$Counters"
def TC : u_T := fun k => match k with
  | 0 => ("SpanningProbes$Counters", "graph", "LSpanningProbes$Graph;", true)
  | 1 => ("SpanningProbes$Counters", "tree", "LSpanningProbes$Tree;", true)
  | 2 => ("SpanningProbes$Counters", "behind", "[I", true)
  | 3 => ("SpanningProbes$Counters", "hits", "[I", true)
  | 4 => ("SpanningProbes$Counters", "stops", "[I", true)
  | _ => ("SpanningProbes$Counters", "completed", "[I", true)
def tyC : Nat → FieldType := fun k => match k with
  | 0 => .object "SpanningProbes$Graph"
  | 1 => .object "SpanningProbes$Tree"
  | 2 => .array .int
  | 3 => .array .int
  | 4 => .array .int
  | _ => .array .int
theorem nmC : ∀ a, a < 6 → ∀ b, b < 6 → a ≠ b → (TC a).2.1 ≠ (TC b).2.1 := by decide +kernel
theorem tyC_ok : ∀ k, k < 6 → parseFieldDescriptor (TC k).2.2.1 = some (tyC k) := by decide +kernel
theorem inC : ∀ w ∈ u_ws RC TC 6, w ∈ zWW := by
  intro w hw
  obtain ⟨k, hk, rfl⟩ := List.mem_map.mp hw
  have hk := List.mem_range.mp hk
  match k, hk with
  | 0, _ => exact mw_194
  | 1, _ => exact mw_196
  | 2, _ => exact mw_198
  | 3, _ => exact mw_200
  | 4, _ => exact mw_202
  | 5, _ => exact mw_204
  | (k + 6), h => exact absurd h (by omega)
def RA : String := "SpanningProbes"
def TA : u_T := fun k => match k with
  | 0 => ("SpanningProbes", "graph", "LSpanningProbes$Graph;", true)
  | 1 => ("SpanningProbes", "search", "LSpanningProbes$Search;", true)
  | 2 => ("SpanningProbes", "loops", "LSpanningProbes$Loops;", true)
  | 3 => ("SpanningProbes", "tree", "LSpanningProbes$Tree;", true)
  | 4 => ("SpanningProbes", "links", "LSpanningProbes$Links;", true)
  | 5 => ("SpanningProbes", "counters", "LSpanningProbes$Counters;", true)
  | 6 => ("SpanningProbes", "isSealed", "Z", false)
  | 7 => ("SpanningProbes", "where", "I", false)
  | _ => ("SpanningProbes", "sum", "I", false)
def tyA : Nat → FieldType := fun k => match k with
  | 0 => .object "SpanningProbes$Graph"
  | 1 => .object "SpanningProbes$Search"
  | 2 => .object "SpanningProbes$Loops"
  | 3 => .object "SpanningProbes$Tree"
  | 4 => .object "SpanningProbes$Links"
  | 5 => .object "SpanningProbes$Counters"
  | 6 => .boolean
  | 7 => .int
  | _ => .int
theorem nmA : ∀ a, a < 9 → ∀ b, b < 9 → a ≠ b → (TA a).2.1 ≠ (TA b).2.1 := by decide +kernel
theorem tyA_ok : ∀ k, k < 9 → parseFieldDescriptor (TA k).2.2.1 = some (tyA k) := by decide +kernel
theorem inA : ∀ w ∈ u_ws RA TA 9, w ∈ zWW := by
  intro w hw
  obtain ⟨k, hk, rfl⟩ := List.mem_map.mp hw
  have hk := List.mem_range.mp hk
  match k, hk with
  | 0, _ => exact mw_216
  | 1, _ => exact mw_218
  | 2, _ => exact mw_220
  | 3, _ => exact mw_222
  | 4, _ => exact mw_224
  | 5, _ => exact mw_226
  | 6, _ => exact mw_228
  | 7, _ => exact mw_230
  | 8, _ => exact mw_232
  | (k + 9), h => exact absurd h (by omega)
def RM : String := "SpanningProbesModel"
def TM : u_T := fun k => match k with
  | 0 => ("SpanningProbesModel", "n", "I", false)
  | 1 => ("SpanningProbesModel", "m", "I", false)
  | 2 => ("SpanningProbesModel", "from", "[I", false)
  | 3 => ("SpanningProbesModel", "to", "[I", false)
  | 4 => ("SpanningProbesModel", "sealed", "Z", false)
  | 5 => ("SpanningProbesModel", "met", "[I", false)
  | 6 => ("SpanningProbesModel", "nextEdge", "[I", false)
  | 7 => ("SpanningProbesModel", "path", "[I", false)
  | 8 => ("SpanningProbesModel", "isBack", "[Z", false)
  | 9 => ("SpanningProbesModel", "mark", "[Z", false)
  | 10 => ("SpanningProbesModel", "depths", "[I", false)
  | 11 => ("SpanningProbesModel", "sorted", "[I", false)
  | 12 => ("SpanningProbesModel", "inTree", "[Z", false)
  | 13 => ("SpanningProbesModel", "isLink", "[Z", false)
  | 14 => ("SpanningProbesModel", "linkFrom", "[I", false)
  | 15 => ("SpanningProbesModel", "linkTo", "[I", false)
  | 16 => ("SpanningProbesModel", "rows", "[I", false)
  | 17 => ("SpanningProbesModel", "linkInTree", "[Z", false)
  | 18 => ("SpanningProbesModel", "based", "[Z", false)
  | 19 => ("SpanningProbesModel", "base", "[I", false)
  | 20 => ("SpanningProbesModel", "pairs", "I", false)
  | 21 => ("SpanningProbesModel", "pairA", "[I", false)
  | 22 => ("SpanningProbesModel", "pairB", "[I", false)
  | 23 => ("SpanningProbesModel", "ways", "I", false)
  | 24 => ("SpanningProbesModel", "wayLength", "[I", false)
  | 25 => ("SpanningProbesModel", "wayLinks", "[I", false)
  | 26 => ("SpanningProbesModel", "found", "I", false)
  | 27 => ("SpanningProbesModel", "trial", "[I", false)
  | 28 => ("SpanningProbesModel", "running", "Z", false)
  | 29 => ("SpanningProbesModel", "place", "I", false)
  | 30 => ("SpanningProbesModel", "passedLinks", "I", false)
  | 31 => ("SpanningProbesModel", "trace", "[I", false)
  | 32 => ("SpanningProbesModel", "edgeCount", "[I", false)
  | 33 => ("SpanningProbesModel", "blockCount", "[I", false)
  | 34 => ("SpanningProbesModel", "wayCount", "[I", false)
  | 35 => ("SpanningProbesModel", "stopCount", "[I", false)
  | 36 => ("SpanningProbesModel", "runs", "I", false)
  | _ => ("SpanningProbesModel", "ends", "I", false)
def tyM : Nat → FieldType := fun k => match k with
  | 0 => .int
  | 1 => .int
  | 2 => .array .int
  | 3 => .array .int
  | 4 => .boolean
  | 5 => .array .int
  | 6 => .array .int
  | 7 => .array .int
  | 8 => .array .boolean
  | 9 => .array .boolean
  | 10 => .array .int
  | 11 => .array .int
  | 12 => .array .boolean
  | 13 => .array .boolean
  | 14 => .array .int
  | 15 => .array .int
  | 16 => .array .int
  | 17 => .array .boolean
  | 18 => .array .boolean
  | 19 => .array .int
  | 20 => .int
  | 21 => .array .int
  | 22 => .array .int
  | 23 => .int
  | 24 => .array .int
  | 25 => .array .int
  | 26 => .int
  | 27 => .array .int
  | 28 => .boolean
  | 29 => .int
  | 30 => .int
  | 31 => .array .int
  | 32 => .array .int
  | 33 => .array .int
  | 34 => .array .int
  | 35 => .array .int
  | 36 => .int
  | _ => .int
theorem nmM : ∀ a, a < 38 → ∀ b, b < 38 → a ≠ b → (TM a).2.1 ≠ (TM b).2.1 := by decide +kernel
theorem tyM_ok : ∀ k, k < 38 → parseFieldDescriptor (TM k).2.2.1 = some (tyM k) := by decide +kernel
theorem inM : ∀ w ∈ u_ws RM TM 38, w ∈ zWW := by
  intro w hw
  obtain ⟨k, hk, rfl⟩ := List.mem_map.mp hw
  have hk := List.mem_range.mp hk
  match k, hk with
  | 0, _ => exact mw_590
  | 1, _ => exact mw_592
  | 2, _ => exact mw_594
  | 3, _ => exact mw_596
  | 4, _ => exact mw_598
  | 5, _ => exact mw_600
  | 6, _ => exact mw_602
  | 7, _ => exact mw_604
  | 8, _ => exact mw_606
  | 9, _ => exact mw_608
  | 10, _ => exact mw_610
  | 11, _ => exact mw_612
  | 12, _ => exact mw_614
  | 13, _ => exact mw_616
  | 14, _ => exact mw_618
  | 15, _ => exact mw_620
  | 16, _ => exact mw_622
  | 17, _ => exact mw_624
  | 18, _ => exact mw_626
  | 19, _ => exact mw_628
  | 20, _ => exact mw_630
  | 21, _ => exact mw_632
  | 22, _ => exact mw_634
  | 23, _ => exact mw_636
  | 24, _ => exact mw_638
  | 25, _ => exact mw_640
  | 26, _ => exact mw_642
  | 27, _ => exact mw_644
  | 28, _ => exact mw_646
  | 29, _ => exact mw_648
  | 30, _ => exact mw_650
  | 31, _ => exact mw_652
  | 32, _ => exact mw_654
  | 33, _ => exact mw_656
  | 34, _ => exact mw_658
  | 35, _ => exact mw_660
  | 36, _ => exact mw_662
  | 37, _ => exact mw_664
  | (k + 38), h => exact absurd h (by omega)
abbrev zCl : List vw_C := [(RG, TG, 4), (RS, TS, 8), (RO, TO, 4), (RT, TT, 3), (RK, TK, 9), (RC, TC, 6), (RA, TA, 9), (RM, TM, 38)]
abbrev zNW : List (String × Nat × MethodName × String) := [("SpanningProbes$Search", 59, ({ cls := "SpanningProbes", name := "bit", desc := "(I)I" } : MethodName), "SpanningProbes"), ("SpanningProbes$Search", 69, ({ cls := "SpanningProbes", name := "isIn", desc := "(II)Z" } : MethodName), "SpanningProbes"), ("SpanningProbes$Graph", 36, ({ cls := "SpanningProbes", name := "bit", desc := "(I)I" } : MethodName), "SpanningProbes"), ("SpanningProbes$Graph", 40, ({ cls := "SpanningProbes", name := "isIn", desc := "(II)Z" } : MethodName), "SpanningProbes"), ("SpanningProbes$Loops", 52, ({ cls := "SpanningProbes", name := "bit", desc := "(I)I" } : MethodName), "SpanningProbes"), ("SpanningProbes$Loops", 65, ({ cls := "SpanningProbes", name := "isIn", desc := "(II)Z" } : MethodName), "SpanningProbes"), ("SpanningProbes$Tree", 39, ({ cls := "SpanningProbes", name := "bit", desc := "(I)I" } : MethodName), "SpanningProbes"), ("SpanningProbes$Links", 89, ({ cls := "SpanningProbes", name := "bit", desc := "(I)I" } : MethodName), "SpanningProbes"), ("SpanningProbes$Links", 99, ({ cls := "SpanningProbes", name := "isIn", desc := "(II)Z" } : MethodName), "SpanningProbes"), ("SpanningProbes$Counters", 64, ({ cls := "SpanningProbes", name := "isIn", desc := "(II)Z" } : MethodName), "SpanningProbes")]
theorem zNW_tab : ∀ q ∈ zNW, Cond.methodLinkNest q.1 q.2.1 q.2.2.1 q.2.2.2 ∈ tables_1 := by
  intro q hq
  simp only [zNW, List.mem_cons, List.not_mem_nil, or_false] at hq
  rcases hq with rfl | rfl | rfl | rfl | rfl | rfl | rfl | rfl | rfl | rfl
  · exact mn_259
  · exact mn_270
  · exact mn_281
  · exact mn_290
  · exact mn_316
  · exact mn_322
  · exact mn_348
  · exact mn_359
  · exact mn_364
  · exact mn_471
abbrev yG_init : MethodName := { cls := "SpanningProbes$Graph", name := "<init>", desc := "(I)V" }
abbrev cG_init : ByteArray := prog_3_method_1_code
abbrev wG_init : List Cond := Cond.code yG_init cG_init 2 none :: zWW
abbrev rG_init : Room := { frames := 1, cells := 2, slots := 48, locals := 20 }
abbrev yG_hasBlock : MethodName := { cls := "SpanningProbes$Graph", name := "hasBlock", desc := "(I)Z" }
abbrev cG_hasBlock : ByteArray := prog_3_method_2_code
abbrev wG_hasBlock : List Cond := Cond.code yG_hasBlock cG_hasBlock 2 (some .boolean) :: zWW
abbrev rG_hasBlock : Room := { frames := 1, cells := 0, slots := 0, locals := 20 }
abbrev yG_hasEdge : MethodName := { cls := "SpanningProbes$Graph", name := "hasEdge", desc := "(I)Z" }
abbrev cG_hasEdge : ByteArray := prog_3_method_3_code
abbrev wG_hasEdge : List Cond := Cond.code yG_hasEdge cG_hasEdge 2 (some .boolean) :: zWW
abbrev rG_hasEdge : Room := { frames := 1, cells := 0, slots := 0, locals := 20 }
abbrev yG_add : MethodName := { cls := "SpanningProbes$Graph", name := "add", desc := "(II)I" }
abbrev cG_add : ByteArray := prog_3_method_4_code
abbrev wG_add : List Cond := Cond.code yG_add cG_add 3 (some .int) :: zWW
abbrev rG_add : Room := { frames := 1, cells := 0, slots := 0, locals := 20 }
abbrev yG_nextFrom : MethodName := { cls := "SpanningProbes$Graph", name := "nextFrom", desc := "(II)I" }
abbrev cG_nextFrom : ByteArray := prog_3_method_5_code
abbrev wG_nextFrom : List Cond := Cond.code yG_nextFrom cG_nextFrom 4 (some .int) :: zWW
abbrev rG_nextFrom : Room := { frames := 1, cells := 0, slots := 0, locals := 20 }
abbrev yG_pickFrom : MethodName := { cls := "SpanningProbes$Graph", name := "pickFrom", desc := "(II)I" }
abbrev cG_pickFrom : ByteArray := prog_3_method_6_code
abbrev wG_pickFrom : List Cond := Cond.code yG_pickFrom cG_pickFrom 6 (some .int) :: zWW
abbrev rG_pickFrom : Room := { frames := 2, cells := 0, slots := 0, locals := 43 }
abbrev yG_allReachExit : MethodName := { cls := "SpanningProbes$Graph", name := "allReachExit", desc := "()Z" }
abbrev cG_allReachExit : ByteArray := prog_3_method_7_code
abbrev wG_allReachExit : List Cond := Cond.code yG_allReachExit cG_allReachExit 1 (some .boolean) :: zWW
abbrev rG_allReachExit : Room := { frames := 3, cells := 0, slots := 0, locals := 66 }
abbrev yG_allBlocks : MethodName := { cls := "SpanningProbes$Graph", name := "allBlocks", desc := "()I" }
abbrev cG_allBlocks : ByteArray := prog_3_method_8_code
abbrev wG_allBlocks : List Cond := Cond.code yG_allBlocks cG_allBlocks 1 (some .int) :: zWW
abbrev rG_allBlocks : Room := { frames := 2, cells := 0, slots := 0, locals := 40 }
abbrev yG_blocksReaching : MethodName := { cls := "SpanningProbes$Graph", name := "blocksReaching", desc := "(II)I" }
abbrev cG_blocksReaching : ByteArray := prog_3_method_9_code
abbrev wG_blocksReaching : List Cond := Cond.code yG_blocksReaching cG_blocksReaching 6 (some .int) :: zWW
abbrev rG_blocksReaching : Room := { frames := 2, cells := 0, slots := 0, locals := 41 }
abbrev yS_init : MethodName := { cls := "SpanningProbes$Search", name := "<init>", desc := "(LSpanningProbes$Graph;)V" }
abbrev cS_init : ByteArray := prog_6_method_1_code
abbrev wS_init : List Cond := Cond.code yS_init cS_init 2 none :: zWW
abbrev rS_init : Room := { frames := 1, cells := 4, slots := 60, locals := 20 }
abbrev yS_metAll : MethodName := { cls := "SpanningProbes$Search", name := "metAll", desc := "()Z" }
abbrev cS_metAll : ByteArray := prog_6_method_2_code
abbrev wS_metAll : List Cond := Cond.code yS_metAll cS_metAll 1 (some .boolean) :: zWW
abbrev rS_metAll : Room := { frames := 3, cells := 0, slots := 0, locals := 60 }
abbrev yS_explore : MethodName := { cls := "SpanningProbes$Search", name := "explore", desc := "()V" }
abbrev cS_explore : ByteArray := prog_6_method_3_code
abbrev wS_explore : List Cond := Cond.code yS_explore cS_explore 6 none :: zWW
abbrev rS_explore : Room := { frames := 4, cells := 0, slots := 0, locals := 83 }
abbrev yS_enter : MethodName := { cls := "SpanningProbes$Search", name := "enter", desc := "(I)V" }
abbrev cS_enter : ByteArray := prog_6_method_4_code
abbrev wS_enter : List Cond := Cond.code yS_enter cS_enter 2 none :: zWW
abbrev rS_enter : Room := { frames := 2, cells := 0, slots := 0, locals := 40 }
abbrev yS_lookAt : MethodName := { cls := "SpanningProbes$Search", name := "lookAt", desc := "(I)V" }
abbrev cS_lookAt : ByteArray := prog_6_method_5_code
abbrev wS_lookAt : List Cond := Cond.code yS_lookAt cS_lookAt 3 none :: zWW
abbrev rS_lookAt : Room := { frames := 3, cells := 0, slots := 0, locals := 61 }
abbrev yO_init : MethodName := { cls := "SpanningProbes$Loops", name := "<init>", desc := "(LSpanningProbes$Graph;LSpanningProbes$Search;)V" }
abbrev cO_init : ByteArray := prog_5_method_1_code
abbrev wO_init : List Cond := Cond.code yO_init cO_init 3 none :: zWW
abbrev rO_init : Room := { frames := 1, cells := 2, slots := 36, locals := 20 }
abbrev yO_measure : MethodName := { cls := "SpanningProbes$Loops", name := "measure", desc := "()V" }
abbrev cO_measure : ByteArray := prog_5_method_2_code
abbrev wO_measure : List Cond := Cond.code yO_measure cO_measure 2 none :: zWW
abbrev rO_measure : Room := { frames := 4, cells := 0, slots := 0, locals := 88 }
abbrev yO_loopOf : MethodName := { cls := "SpanningProbes$Loops", name := "loopOf", desc := "(I)I" }
abbrev cO_loopOf : ByteArray := prog_5_method_3_code
abbrev wO_loopOf : List Cond := Cond.code yO_loopOf cO_loopOf 3 (some .int) :: zWW
abbrev rO_loopOf : Room := { frames := 3, cells := 0, slots := 0, locals := 66 }
abbrev yO_deepen : MethodName := { cls := "SpanningProbes$Loops", name := "deepen", desc := "(I)V" }
abbrev cO_deepen : ByteArray := prog_5_method_4_code
abbrev wO_deepen : List Cond := Cond.code yO_deepen cO_deepen 3 none :: zWW
abbrev rO_deepen : Room := { frames := 2, cells := 0, slots := 0, locals := 41 }
abbrev yO_weightOf : MethodName := { cls := "SpanningProbes$Loops", name := "weightOf", desc := "(I)I" }
abbrev cO_weightOf : ByteArray := prog_5_method_5_code
abbrev wO_weightOf : List Cond := Cond.code yO_weightOf cO_weightOf 2 (some .int) :: zWW
abbrev rO_weightOf : Room := { frames := 1, cells := 0, slots := 0, locals := 20 }
abbrev yO_putInOrder : MethodName := { cls := "SpanningProbes$Loops", name := "putInOrder", desc := "()V" }
abbrev cO_putInOrder : ByteArray := prog_5_method_6_code
abbrev wO_putInOrder : List Cond := Cond.code yO_putInOrder cO_putInOrder 4 none :: zWW
abbrev rO_putInOrder : Room := { frames := 2, cells := 0, slots := 0, locals := 41 }
abbrev yT_init : MethodName := { cls := "SpanningProbes$Tree", name := "<init>", desc := "(LSpanningProbes$Graph;)V" }
abbrev cT_init : ByteArray := prog_7_method_1_code
abbrev wT_init : List Cond := Cond.code yT_init cT_init 2 none :: zWW
abbrev rT_init : Room := { frames := 1, cells := 2, slots := 36, locals := 20 }
abbrev yT_grow : MethodName := { cls := "SpanningProbes$Tree", name := "grow", desc := "([II)V" }
abbrev cT_grow : ByteArray := prog_7_method_2_code
abbrev wT_grow : List Cond := Cond.code yT_grow cT_grow 5 none :: zWW
abbrev rT_grow : Room := { frames := 2, cells := 0, slots := 0, locals := 45 }
abbrev yT_join : MethodName := { cls := "SpanningProbes$Tree", name := "join", desc := "(II)Z" }
abbrev cT_join : ByteArray := prog_7_method_3_code
abbrev wT_join : List Cond := Cond.code yT_join cT_join 6 (some .boolean) :: zWW
abbrev rT_join : Room := { frames := 1, cells := 0, slots := 0, locals := 20 }
abbrev yT_blocksBehind : MethodName := { cls := "SpanningProbes$Tree", name := "blocksBehind", desc := "(I)I" }
abbrev cT_blocksBehind : ByteArray := prog_7_method_4_code
abbrev wT_blocksBehind : List Cond := Cond.code yT_blocksBehind cT_blocksBehind 6 (some .int) :: zWW
abbrev rT_blocksBehind : Room := { frames := 3, cells := 0, slots := 0, locals := 60 }
abbrev yK_init : MethodName := { cls := "SpanningProbes$Links", name := "<init>", desc := "(LSpanningProbes$Graph;LSpanningProbes$Search;)V" }
abbrev cK_init : ByteArray := prog_4_method_1_code
abbrev wK_init : List Cond := Cond.code yK_init cK_init 3 none :: zWW
abbrev rK_init : Room := { frames := 2, cells := 8, slots := 135, locals := 41 }
abbrev yK_targetOf : MethodName := { cls := "SpanningProbes$Links", name := "targetOf", desc := "(I)I" }
abbrev cK_targetOf : ByteArray := prog_4_method_2_code
abbrev wK_targetOf : List Cond := Cond.code yK_targetOf cK_targetOf 2 (some .int) :: zWW
abbrev rK_targetOf : Room := { frames := 1, cells := 0, slots := 0, locals := 20 }
abbrev yK_incrementOf : MethodName := { cls := "SpanningProbes$Links", name := "incrementOf", desc := "(I)I" }
abbrev cK_incrementOf : ByteArray := prog_4_method_3_code
abbrev wK_incrementOf : List Cond := Cond.code yK_incrementOf cK_incrementOf 2 (some .int) :: zWW
abbrev rK_incrementOf : Room := { frames := 2, cells := 0, slots := 0, locals := 41 }
abbrev yK_startIncrementOf : MethodName := { cls := "SpanningProbes$Links", name := "startIncrementOf", desc := "(I)I" }
abbrev cK_startIncrementOf : ByteArray := prog_4_method_4_code
abbrev wK_startIncrementOf : List Cond := Cond.code yK_startIncrementOf cK_startIncrementOf 2 (some .int) :: zWW
abbrev rK_startIncrementOf : Room := { frames := 1, cells := 0, slots := 0, locals := 20 }
abbrev yK_number : MethodName := { cls := "SpanningProbes$Links", name := "number", desc := "()V" }
abbrev cK_number : ByteArray := prog_4_method_5_code
abbrev wK_number : List Cond := Cond.code yK_number cK_number 3 none :: zWW
abbrev rK_number : Room := { frames := 3, cells := 0, slots := 0, locals := 64 }
abbrev yK_numberFrom : MethodName := { cls := "SpanningProbes$Links", name := "numberFrom", desc := "(I)I" }
abbrev cK_numberFrom : ByteArray := prog_4_method_6_code
abbrev wK_numberFrom : List Cond := Cond.code yK_numberFrom cK_numberFrom 4 (some .int) :: zWW
abbrev rK_numberFrom : Room := { frames := 2, cells := 0, slots := 0, locals := 41 }
abbrev yK_numberStarts : MethodName := { cls := "SpanningProbes$Links", name := "numberStarts", desc := "(I)I" }
abbrev cK_numberStarts : ByteArray := prog_4_method_7_code
abbrev wK_numberStarts : List Cond := Cond.code yK_numberStarts cK_numberStarts 4 (some .int) :: zWW
abbrev rK_numberStarts : Room := { frames := 1, cells := 0, slots := 0, locals := 20 }
abbrev yK_spread : MethodName := { cls := "SpanningProbes$Links", name := "spread", desc := "([I)V" }
abbrev cK_spread : ByteArray := prog_4_method_8_code
abbrev wK_spread : List Cond := Cond.code yK_spread cK_spread 5 none :: zWW
abbrev rK_spread : Room := { frames := 3, cells := 0, slots := 0, locals := 69 }
abbrev yK_leaveOutBack : MethodName := { cls := "SpanningProbes$Links", name := "leaveOutBack", desc := "([I)I" }
abbrev cK_leaveOutBack : ByteArray := prog_4_method_9_code
abbrev wK_leaveOutBack : List Cond := Cond.code yK_leaveOutBack cK_leaveOutBack 4 (some .int) :: zWW
abbrev rK_leaveOutBack : Room := { frames := 1, cells := 0, slots := 0, locals := 20 }
abbrev yK_spreadOver : MethodName := { cls := "SpanningProbes$Links", name := "spreadOver", desc := "(II)I" }
abbrev cK_spreadOver : ByteArray := prog_4_method_10_code
abbrev wK_spreadOver : List Cond := Cond.code yK_spreadOver cK_spreadOver 5 (some .int) :: zWW
abbrev rK_spreadOver : Room := { frames := 2, cells := 0, slots := 0, locals := 41 }
abbrev yK_startOfWay : MethodName := { cls := "SpanningProbes$Links", name := "startOfWay", desc := "(I)I" }
abbrev cK_startOfWay : ByteArray := prog_4_method_11_code
abbrev wK_startOfWay : List Cond := Cond.code yK_startOfWay cK_startOfWay 4 (some .int) :: zWW
abbrev rK_startOfWay : Room := { frames := 1, cells := 0, slots := 0, locals := 20 }
abbrev yK_edgeOfWay : MethodName := { cls := "SpanningProbes$Links", name := "edgeOfWay", desc := "(III)I" }
abbrev cK_edgeOfWay : ByteArray := prog_4_method_12_code
abbrev wK_edgeOfWay : List Cond := Cond.code yK_edgeOfWay cK_edgeOfWay 8 (some .int) :: zWW
abbrev rK_edgeOfWay : Room := { frames := 2, cells := 0, slots := 0, locals := 44 }
abbrev yK_linkFrom : MethodName := { cls := "SpanningProbes$Links", name := "linkFrom", desc := "(II)I" }
abbrev cK_linkFrom : ByteArray := prog_4_method_13_code
abbrev wK_linkFrom : List Cond := Cond.code yK_linkFrom cK_linkFrom 5 (some .int) :: zWW
abbrev rK_linkFrom : Room := { frames := 1, cells := 0, slots := 0, locals := 20 }
abbrev yC_init : MethodName := { cls := "SpanningProbes$Counters", name := "<init>", desc := "(LSpanningProbes$Graph;LSpanningProbes$Tree;)V" }
abbrev cC_init : ByteArray := prog_2_method_1_code
abbrev wC_init : List Cond := Cond.code yC_init cC_init 3 none :: zWW
abbrev rC_init : Room := { frames := 1, cells := 4, slots := 260, locals := 20 }
abbrev yC_forget : MethodName := { cls := "SpanningProbes$Counters", name := "forget", desc := "()V" }
abbrev cC_forget : ByteArray := prog_2_method_2_code
abbrev wC_forget : List Cond := Cond.code yC_forget cC_forget 1 none :: zWW
abbrev rC_forget : Room := { frames := 2, cells := 0, slots := 0, locals := 43 }
abbrev yC_cut : MethodName := { cls := "SpanningProbes$Counters", name := "cut", desc := "()V" }
abbrev cC_cut : ByteArray := prog_2_method_3_code
abbrev wC_cut : List Cond := Cond.code yC_cut cC_cut 2 none :: zWW
abbrev rC_cut : Room := { frames := 4, cells := 0, slots := 0, locals := 85 }
abbrev yC_hit : MethodName := { cls := "SpanningProbes$Counters", name := "hit", desc := "(I)V" }
abbrev cC_hit : ByteArray := prog_2_method_4_code
abbrev wC_hit : List Cond := Cond.code yC_hit cC_hit 2 none :: zWW
abbrev rC_hit : Room := { frames := 1, cells := 0, slots := 0, locals := 20 }
abbrev yC_passesOf : MethodName := { cls := "SpanningProbes$Counters", name := "passesOf", desc := "(II)I" }
abbrev cC_passesOf : ByteArray := prog_2_method_5_code
abbrev wC_passesOf : List Cond := Cond.code yC_passesOf cC_passesOf 4 (some .int) :: zWW
abbrev rC_passesOf : Room := { frames := 3, cells := 0, slots := 0, locals := 65 }
abbrev yC_runsLeftIn : MethodName := { cls := "SpanningProbes$Counters", name := "runsLeftIn", desc := "(II)I" }
abbrev cC_runsLeftIn : ByteArray := prog_2_method_6_code
abbrev wC_runsLeftIn : List Cond := Cond.code yC_runsLeftIn cC_runsLeftIn 5 (some .int) :: zWW
abbrev rC_runsLeftIn : Room := { frames := 2, cells := 0, slots := 0, locals := 41 }
abbrev yC_hitsOutOf : MethodName := { cls := "SpanningProbes$Counters", name := "hitsOutOf", desc := "(I)I" }
abbrev cC_hitsOutOf : ByteArray := prog_2_method_7_code
abbrev wC_hitsOutOf : List Cond := Cond.code yC_hitsOutOf cC_hitsOutOf 4 (some .int) :: zWW
abbrev rC_hitsOutOf : Room := { frames := 2, cells := 0, slots := 0, locals := 41 }
abbrev yC_visitsOf : MethodName := { cls := "SpanningProbes$Counters", name := "visitsOf", desc := "(II)I" }
abbrev cC_visitsOf : ByteArray := prog_2_method_8_code
abbrev wC_visitsOf : List Cond := Cond.code yC_visitsOf cC_visitsOf 3 (some .int) :: zWW
abbrev rC_visitsOf : Room := { frames := 5, cells := 0, slots := 0, locals := 112 }
abbrev yC_passesInto : MethodName := { cls := "SpanningProbes$Counters", name := "passesInto", desc := "(II)I" }
abbrev cC_passesInto : ByteArray := prog_2_method_9_code
abbrev wC_passesInto : List Cond := Cond.code yC_passesInto cC_passesInto 5 (some .int) :: zWW
abbrev rC_passesInto : Room := { frames := 4, cells := 0, slots := 0, locals := 88 }
abbrev yC_blocksVisited : MethodName := { cls := "SpanningProbes$Counters", name := "blocksVisited", desc := "(I)I" }
abbrev cC_blocksVisited : ByteArray := prog_2_method_10_code
abbrev wC_blocksVisited : List Cond := Cond.code yC_blocksVisited cC_blocksVisited 4 (some .int) :: zWW
abbrev rC_blocksVisited : Room := { frames := 6, cells := 0, slots := 0, locals := 134 }
abbrev yC_edgesPassed : MethodName := { cls := "SpanningProbes$Counters", name := "edgesPassed", desc := "(I)I" }
abbrev cC_edgesPassed : ByteArray := prog_2_method_11_code
abbrev wC_edgesPassed : List Cond := Cond.code yC_edgesPassed cC_edgesPassed 4 (some .int) :: zWW
abbrev rC_edgesPassed : Room := { frames := 4, cells := 0, slots := 0, locals := 88 }
abbrev yC_waysCompleted : MethodName := { cls := "SpanningProbes$Counters", name := "waysCompleted", desc := "()I" }
abbrev cC_waysCompleted : ByteArray := prog_2_method_12_code
abbrev wC_waysCompleted : List Cond := Cond.code yC_waysCompleted cC_waysCompleted 3 (some .int) :: zWW
abbrev rC_waysCompleted : Room := { frames := 1, cells := 0, slots := 0, locals := 20 }
abbrev yA_init : MethodName := { cls := "SpanningProbes", name := "<init>", desc := "(I)V" }
abbrev cA_init : ByteArray := prog_1_method_1_code
abbrev wA_init : List Cond := Cond.code yA_init cA_init 2 none :: zWW
abbrev rA_init : Room := { frames := 3, cells := 28, slots := 609, locals := 63 }
abbrev yA_edge : MethodName := { cls := "SpanningProbes", name := "edge", desc := "(II)I" }
abbrev cA_edge : ByteArray := prog_1_method_2_code
abbrev wA_edge : List Cond := Cond.code yA_edge cA_edge 3 (some .int) :: zWW
abbrev rA_edge : Room := { frames := 2, cells := 0, slots := 0, locals := 42 }
abbrev yA_seal : MethodName := { cls := "SpanningProbes", name := "seal", desc := "()I" }
abbrev cA_seal : ByteArray := prog_1_method_3_code
abbrev wA_seal : List Cond := Cond.code yA_seal cA_seal 1 (some .int) :: zWW
abbrev rA_seal : Room := { frames := 5, cells := 0, slots := 0, locals := 109 }
abbrev yA_back : MethodName := { cls := "SpanningProbes", name := "back", desc := "(I)Z" }
abbrev cA_back : ByteArray := prog_1_method_4_code
abbrev wA_back : List Cond := Cond.code yA_back cA_back 2 (some .boolean) :: zWW
abbrev rA_back : Room := { frames := 3, cells := 0, slots := 0, locals := 62 }
abbrev yA_depth : MethodName := { cls := "SpanningProbes", name := "depth", desc := "(I)I" }
abbrev cA_depth : ByteArray := prog_1_method_5_code
abbrev wA_depth : List Cond := Cond.code yA_depth cA_depth 2 (some .int) :: zWW
abbrev rA_depth : Room := { frames := 3, cells := 0, slots := 0, locals := 62 }
abbrev yA_probe : MethodName := { cls := "SpanningProbes", name := "probe", desc := "(I)Z" }
abbrev cA_probe : ByteArray := prog_1_method_6_code
abbrev wA_probe : List Cond := Cond.code yA_probe cA_probe 2 (some .boolean) :: zWW
abbrev rA_probe : Room := { frames := 3, cells := 0, slots := 0, locals := 62 }
abbrev yA_increment : MethodName := { cls := "SpanningProbes", name := "increment", desc := "(I)I" }
abbrev cA_increment : ByteArray := prog_1_method_7_code
abbrev wA_increment : List Cond := Cond.code yA_increment cA_increment 2 (some .int) :: zWW
abbrev rA_increment : Room := { frames := 3, cells := 0, slots := 0, locals := 62 }
abbrev yA_reset : MethodName := { cls := "SpanningProbes", name := "reset", desc := "(I)I" }
abbrev cA_reset : ByteArray := prog_1_method_8_code
abbrev wA_reset : List Cond := Cond.code yA_reset cA_reset 2 (some .int) :: zWW
abbrev rA_reset : Room := { frames := 3, cells := 0, slots := 0, locals := 62 }
abbrev yA_start : MethodName := { cls := "SpanningProbes", name := "start", desc := "()Z" }
abbrev cA_start : ByteArray := prog_1_method_9_code
abbrev wA_start : List Cond := Cond.code yA_start cA_start 1 (some .boolean) :: zWW
abbrev rA_start : Room := { frames := 2, cells := 0, slots := 0, locals := 40 }
abbrev yA_take : MethodName := { cls := "SpanningProbes", name := "take", desc := "(I)I" }
abbrev cA_take : ByteArray := prog_1_method_10_code
abbrev wA_take : List Cond := Cond.code yA_take cA_take 2 (some .int) :: zWW
abbrev rA_take : Room := { frames := 4, cells := 0, slots := 0, locals := 83 }
abbrev yA_walk : MethodName := { cls := "SpanningProbes", name := "walk", desc := "(II)I" }
abbrev cA_walk : ByteArray := prog_1_method_11_code
abbrev wA_walk : List Cond := Cond.code yA_walk cA_walk 6 (some .int) :: zWW
abbrev rA_walk : Room := { frames := 4, cells := 0, slots := 0, locals := 83 }
abbrev yA_stop : MethodName := { cls := "SpanningProbes", name := "stop", desc := "()I" }
abbrev cA_stop : ByteArray := prog_1_method_12_code
abbrev wA_stop : List Cond := Cond.code yA_stop cA_stop 2 (some .int) :: zWW
abbrev rA_stop : Room := { frames := 2, cells := 0, slots := 0, locals := 40 }
abbrev yA_at : MethodName := { cls := "SpanningProbes", name := "at", desc := "()I" }
abbrev cA_at : ByteArray := prog_1_method_13_code
abbrev wA_at : List Cond := Cond.code yA_at cA_at 1 (some .int) :: zWW
abbrev rA_at : Room := { frames := 1, cells := 0, slots := 0, locals := 20 }
abbrev yA_register : MethodName := { cls := "SpanningProbes", name := "register", desc := "()I" }
abbrev cA_register : ByteArray := prog_1_method_14_code
abbrev wA_register : List Cond := Cond.code yA_register cA_register 1 (some .int) :: zWW
abbrev rA_register : Room := { frames := 1, cells := 0, slots := 0, locals := 20 }
abbrev yA_count : MethodName := { cls := "SpanningProbes", name := "count", desc := "(I)I" }
abbrev cA_count : ByteArray := prog_1_method_15_code
abbrev wA_count : List Cond := Cond.code yA_count cA_count 2 (some .int) :: zWW
abbrev rA_count : Room := { frames := 4, cells := 0, slots := 0, locals := 88 }
abbrev yA_visits : MethodName := { cls := "SpanningProbes", name := "visits", desc := "(I)I" }
abbrev cA_visits : ByteArray := prog_1_method_16_code
abbrev wA_visits : List Cond := Cond.code yA_visits cA_visits 2 (some .int) :: zWW
abbrev rA_visits : Room := { frames := 6, cells := 0, slots := 0, locals := 134 }
abbrev yA_passed : MethodName := { cls := "SpanningProbes", name := "passed", desc := "(I)I" }
abbrev cA_passed : ByteArray := prog_1_method_17_code
abbrev wA_passed : List Cond := Cond.code yA_passed cA_passed 2 (some .int) :: zWW
abbrev rA_passed : Room := { frames := 2, cells := 0, slots := 0, locals := 41 }
abbrev yA_along : MethodName := { cls := "SpanningProbes", name := "along", desc := "(II)I" }
abbrev cA_along : ByteArray := prog_1_method_18_code
abbrev wA_along : List Cond := Cond.code yA_along cA_along 4 (some .int) :: zWW
abbrev rA_along : Room := { frames := 3, cells := 0, slots := 0, locals := 71 }
abbrev yA_stopped : MethodName := { cls := "SpanningProbes", name := "stopped", desc := "(I)I" }
abbrev cA_stopped : ByteArray := prog_1_method_19_code
abbrev wA_stopped : List Cond := Cond.code yA_stopped cA_stopped 2 (some .int) :: zWW
abbrev rA_stopped : Room := { frames := 3, cells := 0, slots := 0, locals := 62 }
abbrev yA_covered : MethodName := { cls := "SpanningProbes", name := "covered", desc := "(I)I" }
abbrev cA_covered : ByteArray := prog_1_method_20_code
abbrev wA_covered : List Cond := Cond.code yA_covered cA_covered 2 (some .int) :: zWW
abbrev rA_covered : Room := { frames := 7, cells := 0, slots := 0, locals := 157 }
abbrev yA_clear : MethodName := { cls := "SpanningProbes", name := "clear", desc := "()V" }
abbrev cA_clear : ByteArray := prog_1_method_21_code
abbrev wA_clear : List Cond := Cond.code yA_clear cA_clear 1 none :: zWW
abbrev rA_clear : Room := { frames := 3, cells := 0, slots := 0, locals := 63 }
abbrev yA_knowsEdge : MethodName := { cls := "SpanningProbes", name := "knowsEdge", desc := "(I)Z" }
abbrev cA_knowsEdge : ByteArray := prog_1_method_22_code
abbrev wA_knowsEdge : List Cond := Cond.code yA_knowsEdge cA_knowsEdge 2 (some .boolean) :: zWW
abbrev rA_knowsEdge : Room := { frames := 2, cells := 0, slots := 0, locals := 41 }
abbrev yA_knowsBlock : MethodName := { cls := "SpanningProbes", name := "knowsBlock", desc := "(I)Z" }
abbrev cA_knowsBlock : ByteArray := prog_1_method_23_code
abbrev wA_knowsBlock : List Cond := Cond.code yA_knowsBlock cA_knowsBlock 2 (some .boolean) :: zWW
abbrev rA_knowsBlock : Room := { frames := 2, cells := 0, slots := 0, locals := 41 }
abbrev yA_knowsWay : MethodName := { cls := "SpanningProbes", name := "knowsWay", desc := "(I)Z" }
abbrev cA_knowsWay : ByteArray := prog_1_method_24_code
abbrev wA_knowsWay : List Cond := Cond.code yA_knowsWay cA_knowsWay 2 (some .boolean) :: zWW
abbrev rA_knowsWay : Room := { frames := 1, cells := 0, slots := 0, locals := 20 }
abbrev yA_isUnderWay : MethodName := { cls := "SpanningProbes", name := "isUnderWay", desc := "()Z" }
abbrev cA_isUnderWay : ByteArray := prog_1_method_25_code
abbrev wA_isUnderWay : List Cond := Cond.code yA_isUnderWay cA_isUnderWay 1 (some .boolean) :: zWW
abbrev rA_isUnderWay : Room := { frames := 1, cells := 0, slots := 0, locals := 20 }
abbrev yA_pass : MethodName := { cls := "SpanningProbes", name := "pass", desc := "(I)V" }
abbrev cA_pass : ByteArray := prog_1_method_26_code
abbrev wA_pass : List Cond := Cond.code yA_pass cA_pass 2 none :: zWW
abbrev rA_pass : Room := { frames := 3, cells := 0, slots := 0, locals := 62 }
abbrev yA_completeWay : MethodName := { cls := "SpanningProbes", name := "completeWay", desc := "()V" }
abbrev cA_completeWay : ByteArray := prog_1_method_27_code
abbrev wA_completeWay : List Cond := Cond.code yA_completeWay cA_completeWay 1 none :: zWW
abbrev rA_completeWay : Room := { frames := 2, cells := 0, slots := 0, locals := 41 }
abbrev yA_endRun : MethodName := { cls := "SpanningProbes", name := "endRun", desc := "()V" }
abbrev cA_endRun : ByteArray := prog_1_method_28_code
abbrev wA_endRun : List Cond := Cond.code yA_endRun cA_endRun 1 none :: zWW
abbrev rA_endRun : Room := { frames := 1, cells := 0, slots := 0, locals := 20 }
abbrev yA_bit : MethodName := { cls := "SpanningProbes", name := "bit", desc := "(I)I" }
abbrev cA_bit : ByteArray := prog_1_method_29_code
abbrev wA_bit : List Cond := Cond.code yA_bit cA_bit 1 (some .int) :: zWW
abbrev rA_bit : Room := { frames := 1, cells := 0, slots := 0, locals := 20 }
abbrev yA_isIn : MethodName := { cls := "SpanningProbes", name := "isIn", desc := "(II)Z" }
abbrev cA_isIn : ByteArray := prog_1_method_30_code
abbrev wA_isIn : List Cond := Cond.code yA_isIn cA_isIn 2 (some .boolean) :: zWW
abbrev rA_isIn : Room := { frames := 1, cells := 0, slots := 0, locals := 20 }
abbrev yM_init : MethodName := { cls := "SpanningProbesModel", name := "<init>", desc := "(I)V" }
abbrev cM_init : ByteArray := prog_9_method_1_code
abbrev wM_init : List Cond := Cond.code yM_init cM_init 2 none :: zWW
abbrev rM_init : Room := { frames := 1, cells := 27, slots := 4184, locals := 20 }
abbrev yM_block : MethodName := { cls := "SpanningProbesModel", name := "block", desc := "(I)Z" }
abbrev cM_block : ByteArray := prog_9_method_2_code
abbrev wM_block : List Cond := Cond.code yM_block cM_block 2 (some .boolean) :: zWW
abbrev rM_block : Room := { frames := 1, cells := 0, slots := 0, locals := 20 }
abbrev yM_known : MethodName := { cls := "SpanningProbesModel", name := "known", desc := "(I)Z" }
abbrev cM_known : ByteArray := prog_9_method_3_code
abbrev wM_known : List Cond := Cond.code yM_known cM_known 2 (some .boolean) :: zWW
abbrev rM_known : Room := { frames := 1, cells := 0, slots := 0, locals := 20 }
abbrev yM_edge : MethodName := { cls := "SpanningProbesModel", name := "edge", desc := "(II)I" }
abbrev cM_edge : ByteArray := prog_9_method_4_code
abbrev wM_edge : List Cond := Cond.code yM_edge cM_edge 3 (some .int) :: zWW
abbrev rM_edge : Room := { frames := 2, cells := 0, slots := 0, locals := 41 }
abbrev yM_look : MethodName := { cls := "SpanningProbesModel", name := "look", desc := "(I)I" }
abbrev cM_look : ByteArray := prog_9_method_5_code
abbrev wM_look : List Cond := Cond.code yM_look cM_look 3 (some .int) :: zWW
abbrev rM_look : Room := { frames := 1, cells := 0, slots := 0, locals := 20 }
abbrev yM_search : MethodName := { cls := "SpanningProbesModel", name := "search", desc := "()V" }
abbrev cM_search : ByteArray := prog_9_method_6_code
abbrev wM_search : List Cond := Cond.code yM_search cM_search 5 none :: zWW
abbrev rM_search : Room := { frames := 2, cells := 0, slots := 0, locals := 42 }
abbrev yM_spread : MethodName := { cls := "SpanningProbesModel", name := "spread", desc := "(I)V" }
abbrev cM_spread : ByteArray := prog_9_method_7_code
abbrev wM_spread : List Cond := Cond.code yM_spread cM_spread 4 none :: zWW
abbrev rM_spread : Room := { frames := 1, cells := 0, slots := 0, locals := 20 }
abbrev yM_connected : MethodName := { cls := "SpanningProbesModel", name := "connected", desc := "()Z" }
abbrev cM_connected : ByteArray := prog_9_method_8_code
abbrev wM_connected : List Cond := Cond.code yM_connected cM_connected 3 (some .boolean) :: zWW
abbrev rM_connected : Room := { frames := 2, cells := 0, slots := 0, locals := 43 }
abbrev yM_deepen : MethodName := { cls := "SpanningProbesModel", name := "deepen", desc := "()V" }
abbrev cM_deepen : ByteArray := prog_9_method_9_code
abbrev wM_deepen : List Cond := Cond.code yM_deepen cM_deepen 4 none :: zWW
abbrev rM_deepen : Room := { frames := 2, cells := 0, slots := 0, locals := 43 }
abbrev yM_weight : MethodName := { cls := "SpanningProbesModel", name := "weight", desc := "(I)I" }
abbrev cM_weight : ByteArray := prog_9_method_10_code
abbrev wM_weight : List Cond := Cond.code yM_weight cM_weight 4 (some .int) :: zWW
abbrev rM_weight : Room := { frames := 1, cells := 0, slots := 0, locals := 20 }
abbrev yM_sort : MethodName := { cls := "SpanningProbesModel", name := "sort", desc := "()V" }
abbrev cM_sort : ByteArray := prog_9_method_11_code
abbrev wM_sort : List Cond := Cond.code yM_sort cM_sort 6 none :: zWW
abbrev rM_sort : Room := { frames := 2, cells := 0, slots := 0, locals := 43 }
abbrev yM_joined : MethodName := { cls := "SpanningProbesModel", name := "joined", desc := "(II)Z" }
abbrev cM_joined : ByteArray := prog_9_method_12_code
abbrev wM_joined : List Cond := Cond.code yM_joined cM_joined 6 (some .boolean) :: zWW
abbrev rM_joined : Room := { frames := 1, cells := 0, slots := 0, locals := 20 }
abbrev yM_join : MethodName := { cls := "SpanningProbesModel", name := "join", desc := "(II)Z" }
abbrev cM_join : ByteArray := prog_9_method_13_code
abbrev wM_join : List Cond := Cond.code yM_join cM_join 4 (some .boolean) :: zWW
abbrev rM_join : Room := { frames := 2, cells := 0, slots := 0, locals := 45 }
abbrev yM_growTrees : MethodName := { cls := "SpanningProbesModel", name := "growTrees", desc := "()V" }
abbrev cM_growTrees : ByteArray := prog_9_method_14_code
abbrev wM_growTrees : List Cond := Cond.code yM_growTrees cM_growTrees 3 none :: zWW
abbrev rM_growTrees : Room := { frames := 3, cells := 0, slots := 0, locals := 68 }
abbrev yM_layLinks : MethodName := { cls := "SpanningProbesModel", name := "layLinks", desc := "()V" }
abbrev cM_layLinks : ByteArray := prog_9_method_15_code
abbrev wM_layLinks : List Cond := Cond.code yM_layLinks cM_layLinks 3 none :: zWW
abbrev rM_layLinks : Room := { frames := 2, cells := 0, slots := 0, locals := 44 }
abbrev yM_rowsBefore : MethodName := { cls := "SpanningProbesModel", name := "rowsBefore", desc := "(II)I" }
abbrev cM_rowsBefore : ByteArray := prog_9_method_16_code
abbrev wM_rowsBefore : List Cond := Cond.code yM_rowsBefore cM_rowsBefore 5 (some .int) :: zWW
abbrev rM_rowsBefore : Room := { frames := 1, cells := 0, slots := 0, locals := 20 }
abbrev yM_value : MethodName := { cls := "SpanningProbesModel", name := "value", desc := "(I)I" }
abbrev cM_value : ByteArray := prog_9_method_17_code
abbrev wM_value : List Cond := Cond.code yM_value cM_value 2 (some .int) :: zWW
abbrev rM_value : Room := { frames := 2, cells := 0, slots := 0, locals := 44 }
abbrev yM_findBases : MethodName := { cls := "SpanningProbesModel", name := "findBases", desc := "()V" }
abbrev cM_findBases : ByteArray := prog_9_method_18_code
abbrev wM_findBases : List Cond := Cond.code yM_findBases cM_findBases 5 none :: zWW
abbrev rM_findBases : Room := { frames := 3, cells := 0, slots := 0, locals := 65 }
abbrev yM_added : MethodName := { cls := "SpanningProbesModel", name := "added", desc := "(I)I" }
abbrev cM_added : ByteArray := prog_9_method_19_code
abbrev wM_added : List Cond := Cond.code yM_added cM_added 2 (some .int) :: zWW
abbrev rM_added : Room := { frames := 3, cells := 0, slots := 0, locals := 65 }
abbrev yM_linkAfter : MethodName := { cls := "SpanningProbesModel", name := "linkAfter", desc := "(II)I" }
abbrev cM_linkAfter : ByteArray := prog_9_method_20_code
abbrev wM_linkAfter : List Cond := Cond.code yM_linkAfter cM_linkAfter 4 (some .int) :: zWW
abbrev rM_linkAfter : Room := { frames := 1, cells := 0, slots := 0, locals := 20 }
abbrev yM_complete : MethodName := { cls := "SpanningProbesModel", name := "complete", desc := "()V" }
abbrev cM_complete : ByteArray := prog_9_method_21_code
abbrev wM_complete : List Cond := Cond.code yM_complete cM_complete 3 none :: zWW
abbrev rM_complete : Room := { frames := 2, cells := 0, slots := 0, locals := 43 }
abbrev yM_advance : MethodName := { cls := "SpanningProbesModel", name := "advance", desc := "()Z" }
abbrev cM_advance : ByteArray := prog_9_method_22_code
abbrev wM_advance : List Cond := Cond.code yM_advance cM_advance 3 (some .boolean) :: zWW
abbrev rM_advance : Room := { frames := 3, cells := 0, slots := 0, locals := 65 }
abbrev yM_listWays : MethodName := { cls := "SpanningProbesModel", name := "listWays", desc := "()V" }
abbrev cM_listWays : ByteArray := prog_9_method_23_code
abbrev wM_listWays : List Cond := Cond.code yM_listWays cM_listWays 3 none :: zWW
abbrev rM_listWays : Room := { frames := 4, cells := 0, slots := 0, locals := 87 }
abbrev yM_seal : MethodName := { cls := "SpanningProbesModel", name := "seal", desc := "()I" }
abbrev cM_seal : ByteArray := prog_9_method_24_code
abbrev wM_seal : List Cond := Cond.code yM_seal cM_seal 1 (some .int) :: zWW
abbrev rM_seal : Room := { frames := 5, cells := 0, slots := 0, locals := 109 }
abbrev yM_back : MethodName := { cls := "SpanningProbesModel", name := "back", desc := "(I)Z" }
abbrev cM_back : ByteArray := prog_9_method_25_code
abbrev wM_back : List Cond := Cond.code yM_back cM_back 2 (some .boolean) :: zWW
abbrev rM_back : Room := { frames := 2, cells := 0, slots := 0, locals := 41 }
abbrev yM_depth : MethodName := { cls := "SpanningProbesModel", name := "depth", desc := "(I)I" }
abbrev cM_depth : ByteArray := prog_9_method_26_code
abbrev wM_depth : List Cond := Cond.code yM_depth cM_depth 2 (some .int) :: zWW
abbrev rM_depth : Room := { frames := 2, cells := 0, slots := 0, locals := 41 }
abbrev yM_probe : MethodName := { cls := "SpanningProbesModel", name := "probe", desc := "(I)Z" }
abbrev cM_probe : ByteArray := prog_9_method_27_code
abbrev wM_probe : List Cond := Cond.code yM_probe cM_probe 2 (some .boolean) :: zWW
abbrev rM_probe : Room := { frames := 2, cells := 0, slots := 0, locals := 41 }
abbrev yM_increment : MethodName := { cls := "SpanningProbesModel", name := "increment", desc := "(I)I" }
abbrev cM_increment : ByteArray := prog_9_method_28_code
abbrev wM_increment : List Cond := Cond.code yM_increment cM_increment 2 (some .int) :: zWW
abbrev rM_increment : Room := { frames := 4, cells := 0, slots := 0, locals := 86 }
abbrev yM_reset : MethodName := { cls := "SpanningProbesModel", name := "reset", desc := "(I)I" }
abbrev cM_reset : ByteArray := prog_9_method_29_code
abbrev wM_reset : List Cond := Cond.code yM_reset cM_reset 2 (some .int) :: zWW
abbrev rM_reset : Room := { frames := 4, cells := 0, slots := 0, locals := 86 }
abbrev yM_start : MethodName := { cls := "SpanningProbesModel", name := "start", desc := "()Z" }
abbrev cM_start : ByteArray := prog_9_method_30_code
abbrev wM_start : List Cond := Cond.code yM_start cM_start 1 (some .boolean) :: zWW
abbrev rM_start : Room := { frames := 1, cells := 0, slots := 0, locals := 20 }
abbrev yM_note : MethodName := { cls := "SpanningProbesModel", name := "note", desc := "(I)V" }
abbrev cM_note : ByteArray := prog_9_method_31_code
abbrev wM_note : List Cond := Cond.code yM_note cM_note 2 none :: zWW
abbrev rM_note : Room := { frames := 1, cells := 0, slots := 0, locals := 20 }
abbrev yM_countWay : MethodName := { cls := "SpanningProbesModel", name := "countWay", desc := "()V" }
abbrev cM_countWay : ByteArray := prog_9_method_32_code
abbrev wM_countWay : List Cond := Cond.code yM_countWay cM_countWay 4 none :: zWW
abbrev rM_countWay : Room := { frames := 1, cells := 0, slots := 0, locals := 20 }
abbrev yM_pass : MethodName := { cls := "SpanningProbesModel", name := "pass", desc := "(I)V" }
abbrev cM_pass : ByteArray := prog_9_method_33_code
abbrev wM_pass : List Cond := Cond.code yM_pass cM_pass 2 none :: zWW
abbrev rM_pass : Room := { frames := 2, cells := 0, slots := 0, locals := 43 }
abbrev yM_take : MethodName := { cls := "SpanningProbesModel", name := "take", desc := "(I)I" }
abbrev cM_take : ByteArray := prog_9_method_34_code
abbrev wM_take : List Cond := Cond.code yM_take cM_take 2 (some .int) :: zWW
abbrev rM_take : Room := { frames := 3, cells := 0, slots := 0, locals := 64 }
abbrev yM_pick : MethodName := { cls := "SpanningProbesModel", name := "pick", desc := "(I)I" }
abbrev cM_pick : ByteArray := prog_9_method_35_code
abbrev wM_pick : List Cond := Cond.code yM_pick cM_pick 5 (some .int) :: zWW
abbrev rM_pick : Room := { frames := 1, cells := 0, slots := 0, locals := 20 }
abbrev yM_walk : MethodName := { cls := "SpanningProbesModel", name := "walk", desc := "(II)I" }
abbrev cM_walk : ByteArray := prog_9_method_36_code
abbrev wM_walk : List Cond := Cond.code yM_walk cM_walk 6 (some .int) :: zWW
abbrev rM_walk : Room := { frames := 3, cells := 0, slots := 0, locals := 64 }
abbrev yM_stop : MethodName := { cls := "SpanningProbesModel", name := "stop", desc := "()I" }
abbrev cM_stop : ByteArray := prog_9_method_37_code
abbrev wM_stop : List Cond := Cond.code yM_stop cM_stop 1 (some .int) :: zWW
abbrev rM_stop : Room := { frames := 1, cells := 0, slots := 0, locals := 20 }
abbrev yM_at : MethodName := { cls := "SpanningProbesModel", name := "at", desc := "()I" }
abbrev cM_at : ByteArray := prog_9_method_38_code
abbrev wM_at : List Cond := Cond.code yM_at cM_at 1 (some .int) :: zWW
abbrev rM_at : Room := { frames := 1, cells := 0, slots := 0, locals := 20 }
abbrev yM_register : MethodName := { cls := "SpanningProbesModel", name := "register", desc := "()I" }
abbrev cM_register : ByteArray := prog_9_method_39_code
abbrev wM_register : List Cond := Cond.code yM_register cM_register 3 (some .int) :: zWW
abbrev rM_register : Room := { frames := 4, cells := 0, slots := 0, locals := 86 }
abbrev yM_count : MethodName := { cls := "SpanningProbesModel", name := "count", desc := "(I)I" }
abbrev cM_count : ByteArray := prog_9_method_40_code
abbrev wM_count : List Cond := Cond.code yM_count cM_count 2 (some .int) :: zWW
abbrev rM_count : Room := { frames := 2, cells := 0, slots := 0, locals := 41 }
abbrev yM_visits : MethodName := { cls := "SpanningProbesModel", name := "visits", desc := "(I)I" }
abbrev cM_visits : ByteArray := prog_9_method_41_code
abbrev wM_visits : List Cond := Cond.code yM_visits cM_visits 2 (some .int) :: zWW
abbrev rM_visits : Room := { frames := 2, cells := 0, slots := 0, locals := 41 }
abbrev yM_passed : MethodName := { cls := "SpanningProbesModel", name := "passed", desc := "(I)I" }
abbrev cM_passed : ByteArray := prog_9_method_42_code
abbrev wM_passed : List Cond := Cond.code yM_passed cM_passed 2 (some .int) :: zWW
abbrev rM_passed : Room := { frames := 1, cells := 0, slots := 0, locals := 20 }
abbrev yM_along : MethodName := { cls := "SpanningProbesModel", name := "along", desc := "(II)I" }
abbrev cM_along : ByteArray := prog_9_method_43_code
abbrev wM_along : List Cond := Cond.code yM_along cM_along 5 (some .int) :: zWW
abbrev rM_along : Room := { frames := 1, cells := 0, slots := 0, locals := 20 }
abbrev yM_stopped : MethodName := { cls := "SpanningProbesModel", name := "stopped", desc := "(I)I" }
abbrev cM_stopped : ByteArray := prog_9_method_44_code
abbrev wM_stopped : List Cond := Cond.code yM_stopped cM_stopped 2 (some .int) :: zWW
abbrev rM_stopped : Room := { frames := 2, cells := 0, slots := 0, locals := 41 }
abbrev yM_covered : MethodName := { cls := "SpanningProbesModel", name := "covered", desc := "(I)I" }
abbrev cM_covered : ByteArray := prog_9_method_45_code
abbrev wM_covered : List Cond := Cond.code yM_covered cM_covered 4 (some .int) :: zWW
abbrev rM_covered : Room := { frames := 1, cells := 0, slots := 0, locals := 20 }
abbrev yM_clear : MethodName := { cls := "SpanningProbesModel", name := "clear", desc := "()V" }
abbrev cM_clear : ByteArray := prog_9_method_46_code
abbrev wM_clear : List Cond := Cond.code yM_clear cM_clear 2 none :: zWW
abbrev rM_clear : Room := { frames := 1, cells := 0, slots := 0, locals := 20 }
abbrev yL_cell : MethodName := { cls := "SpanningProbesLaw", name := "cell", desc := "([II)I" }
abbrev cL_cell : ByteArray := method_2_code
abbrev wL_cell : List Cond := Cond.code yL_cell cL_cell 2 (some .int) :: zWW
abbrev rL_cell : Room := { frames := 1, cells := 0, slots := 0, locals := 20 }
end
section
/-! rows that decode, A -/
theorem dA_init_0 : decode cA_init 0 = .ok (.aload_n 0, 1) := by decide +kernel
theorem dA_init_1 : decode cA_init 1 = .ok (.invokespecial 3, 3) := by decide +kernel
theorem dA_init_4 : decode cA_init 4 = .ok (.aload_n 0, 1) := by decide +kernel
theorem dA_init_5 : decode cA_init 5 = .ok (.new 9, 3) := by decide +kernel
theorem dA_init_8 : decode cA_init 8 = .ok (.dup, 1) := by decide +kernel
theorem dA_init_9 : decode cA_init 9 = .ok (.iconst 2, 1) := by decide +kernel
theorem dA_init_10 : decode cA_init 10 = .ok (.bipush 12, 2) := by decide +kernel
theorem dA_init_12 : decode cA_init 12 = .ok (.iload_n 1, 1) := by decide +kernel
theorem dA_init_13 : decode cA_init 13 = .ok (.invokestatic 13, 3) := by decide +kernel
theorem dA_init_16 : decode cA_init 16 = .ok (.invokestatic 19, 3) := by decide +kernel
theorem dA_init_19 : decode cA_init 19 = .ok (.invokespecial 22, 3) := by decide +kernel
theorem dA_init_22 : decode cA_init 22 = .ok (.putfield 25, 3) := by decide +kernel
theorem dA_init_25 : decode cA_init 25 = .ok (.aload_n 0, 1) := by decide +kernel
theorem dA_init_26 : decode cA_init 26 = .ok (.new 29, 3) := by decide +kernel
theorem dA_init_29 : decode cA_init 29 = .ok (.dup, 1) := by decide +kernel
theorem dA_init_30 : decode cA_init 30 = .ok (.aload_n 0, 1) := by decide +kernel
theorem dA_init_31 : decode cA_init 31 = .ok (.getfield 25, 3) := by decide +kernel
theorem dA_init_34 : decode cA_init 34 = .ok (.invokespecial 31, 3) := by decide +kernel
theorem dA_init_37 : decode cA_init 37 = .ok (.putfield 34, 3) := by decide +kernel
theorem dA_init_40 : decode cA_init 40 = .ok (.aload_n 0, 1) := by decide +kernel
theorem dA_init_41 : decode cA_init 41 = .ok (.new 38, 3) := by decide +kernel
theorem dA_init_44 : decode cA_init 44 = .ok (.dup, 1) := by decide +kernel
theorem dA_init_45 : decode cA_init 45 = .ok (.aload_n 0, 1) := by decide +kernel
theorem dA_init_46 : decode cA_init 46 = .ok (.getfield 25, 3) := by decide +kernel
theorem dA_init_49 : decode cA_init 49 = .ok (.aload_n 0, 1) := by decide +kernel
theorem dA_init_50 : decode cA_init 50 = .ok (.getfield 34, 3) := by decide +kernel
theorem dA_init_53 : decode cA_init 53 = .ok (.invokespecial 40, 3) := by decide +kernel
theorem dA_init_56 : decode cA_init 56 = .ok (.putfield 43, 3) := by decide +kernel
theorem dA_init_59 : decode cA_init 59 = .ok (.aload_n 0, 1) := by decide +kernel
theorem dA_init_60 : decode cA_init 60 = .ok (.new 47, 3) := by decide +kernel
theorem dA_init_63 : decode cA_init 63 = .ok (.dup, 1) := by decide +kernel
theorem dA_init_64 : decode cA_init 64 = .ok (.aload_n 0, 1) := by decide +kernel
theorem dA_init_65 : decode cA_init 65 = .ok (.getfield 25, 3) := by decide +kernel
theorem dA_init_68 : decode cA_init 68 = .ok (.invokespecial 49, 3) := by decide +kernel
theorem dA_init_71 : decode cA_init 71 = .ok (.putfield 50, 3) := by decide +kernel
theorem dA_init_74 : decode cA_init 74 = .ok (.aload_n 0, 1) := by decide +kernel
theorem dA_init_75 : decode cA_init 75 = .ok (.new 54, 3) := by decide +kernel
theorem dA_init_78 : decode cA_init 78 = .ok (.dup, 1) := by decide +kernel
theorem dA_init_79 : decode cA_init 79 = .ok (.aload_n 0, 1) := by decide +kernel
theorem dA_init_80 : decode cA_init 80 = .ok (.getfield 25, 3) := by decide +kernel
theorem dA_init_83 : decode cA_init 83 = .ok (.aload_n 0, 1) := by decide +kernel
theorem dA_init_84 : decode cA_init 84 = .ok (.getfield 34, 3) := by decide +kernel
theorem dA_init_87 : decode cA_init 87 = .ok (.invokespecial 56, 3) := by decide +kernel
theorem dA_init_90 : decode cA_init 90 = .ok (.putfield 57, 3) := by decide +kernel
theorem dA_init_93 : decode cA_init 93 = .ok (.aload_n 0, 1) := by decide +kernel
theorem dA_init_94 : decode cA_init 94 = .ok (.new 61, 3) := by decide +kernel
theorem dA_init_97 : decode cA_init 97 = .ok (.dup, 1) := by decide +kernel
theorem dA_init_98 : decode cA_init 98 = .ok (.aload_n 0, 1) := by decide +kernel
theorem dA_init_99 : decode cA_init 99 = .ok (.getfield 25, 3) := by decide +kernel
theorem dA_init_102 : decode cA_init 102 = .ok (.aload_n 0, 1) := by decide +kernel
theorem dA_init_103 : decode cA_init 103 = .ok (.getfield 50, 3) := by decide +kernel
theorem dA_init_106 : decode cA_init 106 = .ok (.invokespecial 63, 3) := by decide +kernel
theorem dA_init_109 : decode cA_init 109 = .ok (.putfield 66, 3) := by decide +kernel
theorem dA_init_112 : decode cA_init 112 = .ok (.aload_n 0, 1) := by decide +kernel
theorem dA_init_113 : decode cA_init 113 = .ok (.iconst 0, 1) := by decide +kernel
theorem dA_init_114 : decode cA_init 114 = .ok (.putfield 70, 3) := by decide +kernel
theorem dA_init_117 : decode cA_init 117 = .ok (.aload_n 0, 1) := by decide +kernel
theorem dA_init_118 : decode cA_init 118 = .ok (.iconst (-1), 1) := by decide +kernel
theorem dA_init_119 : decode cA_init 119 = .ok (.putfield 74, 3) := by decide +kernel
theorem dA_init_122 : decode cA_init 122 = .ok (.aload_n 0, 1) := by decide +kernel
theorem dA_init_123 : decode cA_init 123 = .ok (.iconst 0, 1) := by decide +kernel
theorem dA_init_124 : decode cA_init 124 = .ok (.putfield 78, 3) := by decide +kernel
theorem dA_init_127 : decode cA_init 127 = .ok (.return_, 1) := by decide +kernel
theorem dA_edge_0 : decode cA_edge 0 = .ok (.aload_n 0, 1) := by decide +kernel
theorem dA_edge_1 : decode cA_edge 1 = .ok (.getfield 70, 3) := by decide +kernel
theorem dA_edge_4 : decode cA_edge 4 = .ok (.ifCond .ne 25, 3) := by decide +kernel
theorem dA_edge_7 : decode cA_edge 7 = .ok (.aload_n 0, 1) := by decide +kernel
theorem dA_edge_8 : decode cA_edge 8 = .ok (.getfield 25, 3) := by decide +kernel
theorem dA_edge_11 : decode cA_edge 11 = .ok (.iload_n 1, 1) := by decide +kernel
theorem dA_edge_12 : decode cA_edge 12 = .ok (.invokevirtual 81, 3) := by decide +kernel
theorem dA_edge_15 : decode cA_edge 15 = .ok (.ifCond .eq 14, 3) := by decide +kernel
theorem dA_edge_18 : decode cA_edge 18 = .ok (.aload_n 0, 1) := by decide +kernel
theorem dA_edge_19 : decode cA_edge 19 = .ok (.getfield 25, 3) := by decide +kernel
theorem dA_edge_22 : decode cA_edge 22 = .ok (.iload_n 2, 1) := by decide +kernel
theorem dA_edge_23 : decode cA_edge 23 = .ok (.invokevirtual 81, 3) := by decide +kernel
theorem dA_edge_26 : decode cA_edge 26 = .ok (.ifCond .ne 5, 3) := by decide +kernel
theorem dA_edge_29 : decode cA_edge 29 = .ok (.iconst (-1), 1) := by decide +kernel
theorem dA_edge_30 : decode cA_edge 30 = .ok (.ireturn, 1) := by decide +kernel
theorem dA_edge_31 : decode cA_edge 31 = .ok (.iload_n 1, 1) := by decide +kernel
theorem dA_edge_32 : decode cA_edge 32 = .ok (.iconst 1, 1) := by decide +kernel
theorem dA_edge_33 : decode cA_edge 33 = .ok (.if_icmp .eq 7, 3) := by decide +kernel
theorem dA_edge_36 : decode cA_edge 36 = .ok (.iload_n 2, 1) := by decide +kernel
theorem dA_edge_37 : decode cA_edge 37 = .ok (.ifCond .ne 5, 3) := by decide +kernel
theorem dA_edge_40 : decode cA_edge 40 = .ok (.iconst (-1), 1) := by decide +kernel
theorem dA_edge_41 : decode cA_edge 41 = .ok (.ireturn, 1) := by decide +kernel
theorem dA_edge_42 : decode cA_edge 42 = .ok (.aload_n 0, 1) := by decide +kernel
theorem dA_edge_43 : decode cA_edge 43 = .ok (.getfield 25, 3) := by decide +kernel
theorem dA_edge_46 : decode cA_edge 46 = .ok (.getfield 85, 3) := by decide +kernel
theorem dA_edge_49 : decode cA_edge 49 = .ok (.bipush 24, 2) := by decide +kernel
theorem dA_edge_51 : decode cA_edge 51 = .ok (.if_icmp .ge 15, 3) := by decide +kernel
theorem dA_edge_54 : decode cA_edge 54 = .ok (.aload_n 0, 1) := by decide +kernel
theorem dA_edge_55 : decode cA_edge 55 = .ok (.getfield 25, 3) := by decide +kernel
theorem dA_edge_58 : decode cA_edge 58 = .ok (.iload_n 1, 1) := by decide +kernel
theorem dA_edge_59 : decode cA_edge 59 = .ok (.iload_n 2, 1) := by decide +kernel
theorem dA_edge_60 : decode cA_edge 60 = .ok (.invokevirtual 88, 3) := by decide +kernel
theorem dA_edge_63 : decode cA_edge 63 = .ok (.goto 5, 3) := by decide +kernel
theorem dA_edge_66 : decode cA_edge 66 = .ok (.bipush (-2), 2) := by decide +kernel
theorem dA_edge_68 : decode cA_edge 68 = .ok (.ireturn, 1) := by decide +kernel
theorem dA_seal_0 : decode cA_seal 0 = .ok (.aload_n 0, 1) := by decide +kernel
theorem dA_seal_1 : decode cA_seal 1 = .ok (.getfield 70, 3) := by decide +kernel
theorem dA_seal_4 : decode cA_seal 4 = .ok (.ifCond .eq 5, 3) := by decide +kernel
theorem dA_seal_7 : decode cA_seal 7 = .ok (.iconst (-1), 1) := by decide +kernel
theorem dA_seal_8 : decode cA_seal 8 = .ok (.ireturn, 1) := by decide +kernel
theorem dA_seal_9 : decode cA_seal 9 = .ok (.aload_n 0, 1) := by decide +kernel
theorem dA_seal_10 : decode cA_seal 10 = .ok (.getfield 34, 3) := by decide +kernel
theorem dA_seal_13 : decode cA_seal 13 = .ok (.invokevirtual 91, 3) := by decide +kernel
theorem dA_seal_16 : decode cA_seal 16 = .ok (.aload_n 0, 1) := by decide +kernel
theorem dA_seal_17 : decode cA_seal 17 = .ok (.getfield 34, 3) := by decide +kernel
theorem dA_seal_20 : decode cA_seal 20 = .ok (.invokevirtual 94, 3) := by decide +kernel
theorem dA_seal_23 : decode cA_seal 23 = .ok (.ifCond .eq 13, 3) := by decide +kernel
theorem dA_seal_26 : decode cA_seal 26 = .ok (.aload_n 0, 1) := by decide +kernel
theorem dA_seal_27 : decode cA_seal 27 = .ok (.getfield 25, 3) := by decide +kernel
theorem dA_seal_30 : decode cA_seal 30 = .ok (.invokevirtual 98, 3) := by decide +kernel
theorem dA_seal_33 : decode cA_seal 33 = .ok (.ifCond .ne 6, 3) := by decide +kernel
theorem dA_seal_36 : decode cA_seal 36 = .ok (.bipush (-2), 2) := by decide +kernel
theorem dA_seal_38 : decode cA_seal 38 = .ok (.ireturn, 1) := by decide +kernel
theorem dA_seal_39 : decode cA_seal 39 = .ok (.aload_n 0, 1) := by decide +kernel
theorem dA_seal_40 : decode cA_seal 40 = .ok (.getfield 57, 3) := by decide +kernel
theorem dA_seal_43 : decode cA_seal 43 = .ok (.invokevirtual 101, 3) := by decide +kernel
theorem dA_seal_46 : decode cA_seal 46 = .ok (.aload_n 0, 1) := by decide +kernel
theorem dA_seal_47 : decode cA_seal 47 = .ok (.getfield 57, 3) := by decide +kernel
theorem dA_seal_50 : decode cA_seal 50 = .ok (.getfield 104, 3) := by decide +kernel
theorem dA_seal_53 : decode cA_seal 53 = .ok (.sipush 200, 3) := by decide +kernel
theorem dA_seal_56 : decode cA_seal 56 = .ok (.if_icmp .le 6, 3) := by decide +kernel
theorem dA_seal_59 : decode cA_seal 59 = .ok (.bipush (-3), 2) := by decide +kernel
theorem dA_seal_61 : decode cA_seal 61 = .ok (.ireturn, 1) := by decide +kernel
theorem dA_seal_62 : decode cA_seal 62 = .ok (.aload_n 0, 1) := by decide +kernel
theorem dA_seal_63 : decode cA_seal 63 = .ok (.getfield 43, 3) := by decide +kernel
theorem dA_seal_66 : decode cA_seal 66 = .ok (.invokevirtual 107, 3) := by decide +kernel
theorem dA_seal_69 : decode cA_seal 69 = .ok (.aload_n 0, 1) := by decide +kernel
theorem dA_seal_70 : decode cA_seal 70 = .ok (.getfield 50, 3) := by decide +kernel
theorem dA_seal_73 : decode cA_seal 73 = .ok (.aload_n 0, 1) := by decide +kernel
theorem dA_seal_74 : decode cA_seal 74 = .ok (.getfield 43, 3) := by decide +kernel
theorem dA_seal_77 : decode cA_seal 77 = .ok (.getfield 110, 3) := by decide +kernel
theorem dA_seal_80 : decode cA_seal 80 = .ok (.aload_n 0, 1) := by decide +kernel
theorem dA_seal_81 : decode cA_seal 81 = .ok (.getfield 25, 3) := by decide +kernel
theorem dA_seal_84 : decode cA_seal 84 = .ok (.getfield 85, 3) := by decide +kernel
theorem dA_seal_87 : decode cA_seal 87 = .ok (.invokevirtual 114, 3) := by decide +kernel
theorem dA_seal_90 : decode cA_seal 90 = .ok (.aload_n 0, 1) := by decide +kernel
theorem dA_seal_91 : decode cA_seal 91 = .ok (.getfield 66, 3) := by decide +kernel
theorem dA_seal_94 : decode cA_seal 94 = .ok (.invokevirtual 118, 3) := by decide +kernel
theorem dA_seal_97 : decode cA_seal 97 = .ok (.aload_n 0, 1) := by decide +kernel
theorem dA_seal_98 : decode cA_seal 98 = .ok (.getfield 57, 3) := by decide +kernel
theorem dA_seal_101 : decode cA_seal 101 = .ok (.aload_n 0, 1) := by decide +kernel
theorem dA_seal_102 : decode cA_seal 102 = .ok (.getfield 43, 3) := by decide +kernel
theorem dA_seal_105 : decode cA_seal 105 = .ok (.getfield 110, 3) := by decide +kernel
theorem dA_seal_108 : decode cA_seal 108 = .ok (.invokevirtual 121, 3) := by decide +kernel
theorem dA_seal_111 : decode cA_seal 111 = .ok (.aload_n 0, 1) := by decide +kernel
theorem dA_seal_112 : decode cA_seal 112 = .ok (.iconst 1, 1) := by decide +kernel
theorem dA_seal_113 : decode cA_seal 113 = .ok (.putfield 70, 3) := by decide +kernel
theorem dA_seal_116 : decode cA_seal 116 = .ok (.aload_n 0, 1) := by decide +kernel
theorem dA_seal_117 : decode cA_seal 117 = .ok (.getfield 57, 3) := by decide +kernel
theorem dA_seal_120 : decode cA_seal 120 = .ok (.getfield 104, 3) := by decide +kernel
theorem dA_seal_123 : decode cA_seal 123 = .ok (.ireturn, 1) := by decide +kernel
theorem dA_back_0 : decode cA_back 0 = .ok (.aload_n 0, 1) := by decide +kernel
theorem dA_back_1 : decode cA_back 1 = .ok (.iload_n 1, 1) := by decide +kernel
theorem dA_back_2 : decode cA_back 2 = .ok (.invokevirtual 125, 3) := by decide +kernel
theorem dA_back_5 : decode cA_back 5 = .ok (.ifCond .eq 19, 3) := by decide +kernel
theorem dA_back_8 : decode cA_back 8 = .ok (.aload_n 0, 1) := by decide +kernel
theorem dA_back_9 : decode cA_back 9 = .ok (.getfield 34, 3) := by decide +kernel
theorem dA_back_12 : decode cA_back 12 = .ok (.getfield 128, 3) := by decide +kernel
theorem dA_back_15 : decode cA_back 15 = .ok (.iload_n 1, 1) := by decide +kernel
theorem dA_back_16 : decode cA_back 16 = .ok (.baload, 1) := by decide +kernel
theorem dA_back_17 : decode cA_back 17 = .ok (.ifCond .eq 7, 3) := by decide +kernel
theorem dA_back_20 : decode cA_back 20 = .ok (.iconst 1, 1) := by decide +kernel
theorem dA_back_21 : decode cA_back 21 = .ok (.goto 4, 3) := by decide +kernel
theorem dA_back_24 : decode cA_back 24 = .ok (.iconst 0, 1) := by decide +kernel
theorem dA_back_25 : decode cA_back 25 = .ok (.ireturn, 1) := by decide +kernel
theorem dA_depth_0 : decode cA_depth 0 = .ok (.aload_n 0, 1) := by decide +kernel
theorem dA_depth_1 : decode cA_depth 1 = .ok (.iload_n 1, 1) := by decide +kernel
theorem dA_depth_2 : decode cA_depth 2 = .ok (.invokevirtual 132, 3) := by decide +kernel
theorem dA_depth_5 : decode cA_depth 5 = .ok (.ifCond .eq 15, 3) := by decide +kernel
theorem dA_depth_8 : decode cA_depth 8 = .ok (.aload_n 0, 1) := by decide +kernel
theorem dA_depth_9 : decode cA_depth 9 = .ok (.getfield 43, 3) := by decide +kernel
theorem dA_depth_12 : decode cA_depth 12 = .ok (.getfield 135, 3) := by decide +kernel
theorem dA_depth_15 : decode cA_depth 15 = .ok (.iload_n 1, 1) := by decide +kernel
theorem dA_depth_16 : decode cA_depth 16 = .ok (.iaload, 1) := by decide +kernel
theorem dA_depth_17 : decode cA_depth 17 = .ok (.goto 4, 3) := by decide +kernel
theorem dA_depth_20 : decode cA_depth 20 = .ok (.iconst (-1), 1) := by decide +kernel
theorem dA_depth_21 : decode cA_depth 21 = .ok (.ireturn, 1) := by decide +kernel
theorem dA_probe_0 : decode cA_probe 0 = .ok (.aload_n 0, 1) := by decide +kernel
theorem dA_probe_1 : decode cA_probe 1 = .ok (.iload_n 1, 1) := by decide +kernel
theorem dA_probe_2 : decode cA_probe 2 = .ok (.invokevirtual 125, 3) := by decide +kernel
theorem dA_probe_5 : decode cA_probe 5 = .ok (.ifCond .eq 19, 3) := by decide +kernel
theorem dA_probe_8 : decode cA_probe 8 = .ok (.aload_n 0, 1) := by decide +kernel
theorem dA_probe_9 : decode cA_probe 9 = .ok (.getfield 50, 3) := by decide +kernel
theorem dA_probe_12 : decode cA_probe 12 = .ok (.getfield 138, 3) := by decide +kernel
theorem dA_probe_15 : decode cA_probe 15 = .ok (.iload_n 1, 1) := by decide +kernel
theorem dA_probe_16 : decode cA_probe 16 = .ok (.baload, 1) := by decide +kernel
theorem dA_probe_17 : decode cA_probe 17 = .ok (.ifCond .ne 7, 3) := by decide +kernel
theorem dA_probe_20 : decode cA_probe 20 = .ok (.iconst 1, 1) := by decide +kernel
theorem dA_probe_21 : decode cA_probe 21 = .ok (.goto 4, 3) := by decide +kernel
theorem dA_probe_24 : decode cA_probe 24 = .ok (.iconst 0, 1) := by decide +kernel
theorem dA_probe_25 : decode cA_probe 25 = .ok (.ireturn, 1) := by decide +kernel
theorem dA_increment_0 : decode cA_increment 0 = .ok (.aload_n 0, 1) := by decide +kernel
theorem dA_increment_1 : decode cA_increment 1 = .ok (.iload_n 1, 1) := by decide +kernel
theorem dA_increment_2 : decode cA_increment 2 = .ok (.invokevirtual 125, 3) := by decide +kernel
theorem dA_increment_5 : decode cA_increment 5 = .ok (.ifCond .eq 14, 3) := by decide +kernel
theorem dA_increment_8 : decode cA_increment 8 = .ok (.aload_n 0, 1) := by decide +kernel
theorem dA_increment_9 : decode cA_increment 9 = .ok (.getfield 57, 3) := by decide +kernel
theorem dA_increment_12 : decode cA_increment 12 = .ok (.iload_n 1, 1) := by decide +kernel
theorem dA_increment_13 : decode cA_increment 13 = .ok (.invokevirtual 141, 3) := by decide +kernel
theorem dA_increment_16 : decode cA_increment 16 = .ok (.goto 5, 3) := by decide +kernel
theorem dA_increment_19 : decode cA_increment 19 = .ok (.ldc 145, 2) := by decide +kernel
theorem dA_increment_21 : decode cA_increment 21 = .ok (.ireturn, 1) := by decide +kernel
theorem dA_reset_0 : decode cA_reset 0 = .ok (.aload_n 0, 1) := by decide +kernel
theorem dA_reset_1 : decode cA_reset 1 = .ok (.iload_n 1, 1) := by decide +kernel
theorem dA_reset_2 : decode cA_reset 2 = .ok (.invokevirtual 125, 3) := by decide +kernel
theorem dA_reset_5 : decode cA_reset 5 = .ok (.ifCond .eq 26, 3) := by decide +kernel
theorem dA_reset_8 : decode cA_reset 8 = .ok (.aload_n 0, 1) := by decide +kernel
theorem dA_reset_9 : decode cA_reset 9 = .ok (.getfield 34, 3) := by decide +kernel
theorem dA_reset_12 : decode cA_reset 12 = .ok (.getfield 128, 3) := by decide +kernel
theorem dA_reset_15 : decode cA_reset 15 = .ok (.iload_n 1, 1) := by decide +kernel
theorem dA_reset_16 : decode cA_reset 16 = .ok (.baload, 1) := by decide +kernel
theorem dA_reset_17 : decode cA_reset 17 = .ok (.ifCond .eq 14, 3) := by decide +kernel
theorem dA_reset_20 : decode cA_reset 20 = .ok (.aload_n 0, 1) := by decide +kernel
theorem dA_reset_21 : decode cA_reset 21 = .ok (.getfield 57, 3) := by decide +kernel
theorem dA_reset_24 : decode cA_reset 24 = .ok (.iload_n 1, 1) := by decide +kernel
theorem dA_reset_25 : decode cA_reset 25 = .ok (.invokevirtual 146, 3) := by decide +kernel
theorem dA_reset_28 : decode cA_reset 28 = .ok (.goto 5, 3) := by decide +kernel
theorem dA_reset_31 : decode cA_reset 31 = .ok (.ldc 145, 2) := by decide +kernel
theorem dA_reset_33 : decode cA_reset 33 = .ok (.ireturn, 1) := by decide +kernel
theorem dA_start_0 : decode cA_start 0 = .ok (.aload_n 0, 1) := by decide +kernel
theorem dA_start_1 : decode cA_start 1 = .ok (.getfield 70, 3) := by decide +kernel
theorem dA_start_4 : decode cA_start 4 = .ok (.ifCond .eq 10, 3) := by decide +kernel
theorem dA_start_7 : decode cA_start 7 = .ok (.aload_n 0, 1) := by decide +kernel
theorem dA_start_8 : decode cA_start 8 = .ok (.invokevirtual 149, 3) := by decide +kernel
theorem dA_start_11 : decode cA_start 11 = .ok (.ifCond .eq 5, 3) := by decide +kernel
theorem dA_start_14 : decode cA_start 14 = .ok (.iconst 0, 1) := by decide +kernel
theorem dA_start_15 : decode cA_start 15 = .ok (.ireturn, 1) := by decide +kernel
theorem dA_start_16 : decode cA_start 16 = .ok (.aload_n 0, 1) := by decide +kernel
theorem dA_start_17 : decode cA_start 17 = .ok (.iconst 0, 1) := by decide +kernel
theorem dA_start_18 : decode cA_start 18 = .ok (.putfield 74, 3) := by decide +kernel
theorem dA_start_21 : decode cA_start 21 = .ok (.iconst 1, 1) := by decide +kernel
theorem dA_start_22 : decode cA_start 22 = .ok (.ireturn, 1) := by decide +kernel
theorem dA_take_0 : decode cA_take 0 = .ok (.aload_n 0, 1) := by decide +kernel
theorem dA_take_1 : decode cA_take 1 = .ok (.invokevirtual 149, 3) := by decide +kernel
theorem dA_take_4 : decode cA_take 4 = .ok (.ifCond .eq 30, 3) := by decide +kernel
theorem dA_take_7 : decode cA_take 7 = .ok (.aload_n 0, 1) := by decide +kernel
theorem dA_take_8 : decode cA_take 8 = .ok (.getfield 25, 3) := by decide +kernel
theorem dA_take_11 : decode cA_take 11 = .ok (.iload_n 1, 1) := by decide +kernel
theorem dA_take_12 : decode cA_take 12 = .ok (.invokevirtual 152, 3) := by decide +kernel
theorem dA_take_15 : decode cA_take 15 = .ok (.ifCond .eq 19, 3) := by decide +kernel
theorem dA_take_18 : decode cA_take 18 = .ok (.aload_n 0, 1) := by decide +kernel
theorem dA_take_19 : decode cA_take 19 = .ok (.getfield 25, 3) := by decide +kernel
theorem dA_take_22 : decode cA_take 22 = .ok (.getfield 155, 3) := by decide +kernel
theorem dA_take_25 : decode cA_take 25 = .ok (.iload_n 1, 1) := by decide +kernel
theorem dA_take_26 : decode cA_take 26 = .ok (.iaload, 1) := by decide +kernel
theorem dA_take_27 : decode cA_take 27 = .ok (.aload_n 0, 1) := by decide +kernel
theorem dA_take_28 : decode cA_take 28 = .ok (.getfield 74, 3) := by decide +kernel
theorem dA_take_31 : decode cA_take 31 = .ok (.if_icmp .eq 5, 3) := by decide +kernel
theorem dA_take_34 : decode cA_take 34 = .ok (.iconst (-1), 1) := by decide +kernel
theorem dA_take_35 : decode cA_take 35 = .ok (.ireturn, 1) := by decide +kernel
theorem dA_take_36 : decode cA_take 36 = .ok (.aload_n 0, 1) := by decide +kernel
theorem dA_take_37 : decode cA_take 37 = .ok (.iload_n 1, 1) := by decide +kernel
theorem dA_take_38 : decode cA_take 38 = .ok (.invokevirtual 158, 3) := by decide +kernel
theorem dA_take_41 : decode cA_take 41 = .ok (.aload_n 0, 1) := by decide +kernel
theorem dA_take_42 : decode cA_take 42 = .ok (.getfield 25, 3) := by decide +kernel
theorem dA_take_45 : decode cA_take 45 = .ok (.getfield 161, 3) := by decide +kernel
theorem dA_take_48 : decode cA_take 48 = .ok (.iload_n 1, 1) := by decide +kernel
theorem dA_take_49 : decode cA_take 49 = .ok (.iaload, 1) := by decide +kernel
theorem dA_take_50 : decode cA_take 50 = .ok (.ireturn, 1) := by decide +kernel
theorem dA_walk_0 : decode cA_walk 0 = .ok (.aload_n 0, 1) := by decide +kernel
theorem dA_walk_1 : decode cA_walk 1 = .ok (.invokevirtual 149, 3) := by decide +kernel
theorem dA_walk_4 : decode cA_walk 4 = .ok (.ifCond .eq 13, 3) := by decide +kernel
theorem dA_walk_7 : decode cA_walk 7 = .ok (.iload_n 2, 1) := by decide +kernel
theorem dA_walk_8 : decode cA_walk 8 = .ok (.ifCond .lt 9, 3) := by decide +kernel
theorem dA_walk_11 : decode cA_walk 11 = .ok (.iload_n 2, 1) := by decide +kernel
theorem dA_walk_12 : decode cA_walk 12 = .ok (.bipush 16, 2) := by decide +kernel
theorem dA_walk_14 : decode cA_walk 14 = .ok (.if_icmp .le 5, 3) := by decide +kernel
theorem dA_walk_17 : decode cA_walk 17 = .ok (.iconst (-1), 1) := by decide +kernel
theorem dA_walk_18 : decode cA_walk 18 = .ok (.ireturn, 1) := by decide +kernel
theorem dA_walk_19 : decode cA_walk 19 = .ok (.iload_n 1, 1) := by decide +kernel
theorem dA_walk_20 : decode cA_walk 20 = .ok (.istore_n 3, 1) := by decide +kernel
theorem dA_walk_21 : decode cA_walk 21 = .ok (.iconst 0, 1) := by decide +kernel
theorem dA_walk_22 : decode cA_walk 22 = .ok (.istore 4, 2) := by decide +kernel
theorem dA_walk_24 : decode cA_walk 24 = .ok (.iload 4, 2) := by decide +kernel
theorem dA_walk_26 : decode cA_walk 26 = .ok (.iload_n 2, 1) := by decide +kernel
theorem dA_walk_27 : decode cA_walk 27 = .ok (.if_icmp .ge 54, 3) := by decide +kernel
theorem dA_walk_30 : decode cA_walk 30 = .ok (.aload_n 0, 1) := by decide +kernel
theorem dA_walk_31 : decode cA_walk 31 = .ok (.invokevirtual 149, 3) := by decide +kernel
theorem dA_walk_34 : decode cA_walk 34 = .ok (.ifCond .eq 20, 3) := by decide +kernel
theorem dA_walk_37 : decode cA_walk 37 = .ok (.aload_n 0, 1) := by decide +kernel
theorem dA_walk_38 : decode cA_walk 38 = .ok (.getfield 25, 3) := by decide +kernel
theorem dA_walk_41 : decode cA_walk 41 = .ok (.aload_n 0, 1) := by decide +kernel
theorem dA_walk_42 : decode cA_walk 42 = .ok (.getfield 74, 3) := by decide +kernel
theorem dA_walk_45 : decode cA_walk 45 = .ok (.iload_n 3, 1) := by decide +kernel
theorem dA_walk_46 : decode cA_walk 46 = .ok (.iconst 3, 1) := by decide +kernel
theorem dA_walk_47 : decode cA_walk 47 = .ok (.iand, 1) := by decide +kernel
theorem dA_walk_48 : decode cA_walk 48 = .ok (.invokevirtual 164, 3) := by decide +kernel
theorem dA_walk_51 : decode cA_walk 51 = .ok (.goto 4, 3) := by decide +kernel
theorem dA_walk_54 : decode cA_walk 54 = .ok (.iconst (-1), 1) := by decide +kernel
theorem dA_walk_55 : decode cA_walk 55 = .ok (.istore 5, 2) := by decide +kernel
theorem dA_walk_57 : decode cA_walk 57 = .ok (.iload 5, 2) := by decide +kernel
theorem dA_walk_59 : decode cA_walk 59 = .ok (.ifCond .ge 6, 3) := by decide +kernel
theorem dA_walk_62 : decode cA_walk 62 = .ok (.iload 4, 2) := by decide +kernel
theorem dA_walk_64 : decode cA_walk 64 = .ok (.ireturn, 1) := by decide +kernel
theorem dA_walk_65 : decode cA_walk 65 = .ok (.aload_n 0, 1) := by decide +kernel
theorem dA_walk_66 : decode cA_walk 66 = .ok (.iload 5, 2) := by decide +kernel
theorem dA_walk_68 : decode cA_walk 68 = .ok (.invokevirtual 158, 3) := by decide +kernel
theorem dA_walk_71 : decode cA_walk 71 = .ok (.iload_n 3, 1) := by decide +kernel
theorem dA_walk_72 : decode cA_walk 72 = .ok (.iconst 2, 1) := by decide +kernel
theorem dA_walk_73 : decode cA_walk 73 = .ok (.iushr, 1) := by decide +kernel
theorem dA_walk_74 : decode cA_walk 74 = .ok (.istore_n 3, 1) := by decide +kernel
theorem dA_walk_75 : decode cA_walk 75 = .ok (.iinc 4 1, 3) := by decide +kernel
theorem dA_walk_78 : decode cA_walk 78 = .ok (.goto (-54), 3) := by decide +kernel
theorem dA_walk_81 : decode cA_walk 81 = .ok (.iload_n 2, 1) := by decide +kernel
theorem dA_walk_82 : decode cA_walk 82 = .ok (.ireturn, 1) := by decide +kernel
theorem dA_stop_0 : decode cA_stop 0 = .ok (.aload_n 0, 1) := by decide +kernel
theorem dA_stop_1 : decode cA_stop 1 = .ok (.invokevirtual 149, 3) := by decide +kernel
theorem dA_stop_4 : decode cA_stop 4 = .ok (.ifCond .ne 5, 3) := by decide +kernel
theorem dA_stop_7 : decode cA_stop 7 = .ok (.iconst (-1), 1) := by decide +kernel
theorem dA_stop_8 : decode cA_stop 8 = .ok (.ireturn, 1) := by decide +kernel
theorem dA_stop_9 : decode cA_stop 9 = .ok (.aload_n 0, 1) := by decide +kernel
theorem dA_stop_10 : decode cA_stop 10 = .ok (.getfield 74, 3) := by decide +kernel
theorem dA_stop_13 : decode cA_stop 13 = .ok (.istore_n 1, 1) := by decide +kernel
theorem dA_stop_14 : decode cA_stop 14 = .ok (.aload_n 0, 1) := by decide +kernel
theorem dA_stop_15 : decode cA_stop 15 = .ok (.getfield 66, 3) := by decide +kernel
theorem dA_stop_18 : decode cA_stop 18 = .ok (.getfield 167, 3) := by decide +kernel
theorem dA_stop_21 : decode cA_stop 21 = .ok (.iload_n 1, 1) := by decide +kernel
theorem dA_stop_22 : decode cA_stop 22 = .ok (.dup2, 1) := by decide +kernel
theorem dA_stop_23 : decode cA_stop 23 = .ok (.iaload, 1) := by decide +kernel
theorem dA_stop_24 : decode cA_stop 24 = .ok (.iconst 1, 1) := by decide +kernel
theorem dA_stop_25 : decode cA_stop 25 = .ok (.iadd, 1) := by decide +kernel
theorem dA_stop_26 : decode cA_stop 26 = .ok (.iastore, 1) := by decide +kernel
theorem dA_stop_27 : decode cA_stop 27 = .ok (.aload_n 0, 1) := by decide +kernel
theorem dA_stop_28 : decode cA_stop 28 = .ok (.invokevirtual 170, 3) := by decide +kernel
theorem dA_stop_31 : decode cA_stop 31 = .ok (.iload_n 1, 1) := by decide +kernel
theorem dA_stop_32 : decode cA_stop 32 = .ok (.ireturn, 1) := by decide +kernel
theorem dA_at_0 : decode cA_at 0 = .ok (.aload_n 0, 1) := by decide +kernel
theorem dA_at_1 : decode cA_at 1 = .ok (.getfield 74, 3) := by decide +kernel
theorem dA_at_4 : decode cA_at 4 = .ok (.ireturn, 1) := by decide +kernel
theorem dA_register_0 : decode cA_register 0 = .ok (.aload_n 0, 1) := by decide +kernel
theorem dA_register_1 : decode cA_register 1 = .ok (.getfield 78, 3) := by decide +kernel
theorem dA_register_4 : decode cA_register 4 = .ok (.ireturn, 1) := by decide +kernel
theorem dA_count_0 : decode cA_count 0 = .ok (.aload_n 0, 1) := by decide +kernel
theorem dA_count_1 : decode cA_count 1 = .ok (.iload_n 1, 1) := by decide +kernel
theorem dA_count_2 : decode cA_count 2 = .ok (.invokevirtual 125, 3) := by decide +kernel
theorem dA_count_5 : decode cA_count 5 = .ok (.ifCond .eq 18, 3) := by decide +kernel
theorem dA_count_8 : decode cA_count 8 = .ok (.aload_n 0, 1) := by decide +kernel
theorem dA_count_9 : decode cA_count 9 = .ok (.getfield 66, 3) := by decide +kernel
theorem dA_count_12 : decode cA_count 12 = .ok (.iload_n 1, 1) := by decide +kernel
theorem dA_count_13 : decode cA_count 13 = .ok (.aload_n 0, 1) := by decide +kernel
theorem dA_count_14 : decode cA_count 14 = .ok (.getfield 74, 3) := by decide +kernel
theorem dA_count_17 : decode cA_count 17 = .ok (.invokevirtual 173, 3) := by decide +kernel
theorem dA_count_20 : decode cA_count 20 = .ok (.goto 4, 3) := by decide +kernel
theorem dA_count_23 : decode cA_count 23 = .ok (.iconst (-1), 1) := by decide +kernel
theorem dA_count_24 : decode cA_count 24 = .ok (.ireturn, 1) := by decide +kernel
theorem dA_visits_0 : decode cA_visits 0 = .ok (.aload_n 0, 1) := by decide +kernel
theorem dA_visits_1 : decode cA_visits 1 = .ok (.iload_n 1, 1) := by decide +kernel
theorem dA_visits_2 : decode cA_visits 2 = .ok (.invokevirtual 132, 3) := by decide +kernel
theorem dA_visits_5 : decode cA_visits 5 = .ok (.ifCond .eq 18, 3) := by decide +kernel
theorem dA_visits_8 : decode cA_visits 8 = .ok (.aload_n 0, 1) := by decide +kernel
theorem dA_visits_9 : decode cA_visits 9 = .ok (.getfield 66, 3) := by decide +kernel
theorem dA_visits_12 : decode cA_visits 12 = .ok (.iload_n 1, 1) := by decide +kernel
theorem dA_visits_13 : decode cA_visits 13 = .ok (.aload_n 0, 1) := by decide +kernel
theorem dA_visits_14 : decode cA_visits 14 = .ok (.getfield 74, 3) := by decide +kernel
theorem dA_visits_17 : decode cA_visits 17 = .ok (.invokevirtual 176, 3) := by decide +kernel
theorem dA_visits_20 : decode cA_visits 20 = .ok (.goto 4, 3) := by decide +kernel
theorem dA_visits_23 : decode cA_visits 23 = .ok (.iconst (-1), 1) := by decide +kernel
theorem dA_visits_24 : decode cA_visits 24 = .ok (.ireturn, 1) := by decide +kernel
theorem dA_passed_0 : decode cA_passed 0 = .ok (.aload_n 0, 1) := by decide +kernel
theorem dA_passed_1 : decode cA_passed 1 = .ok (.iload_n 1, 1) := by decide +kernel
theorem dA_passed_2 : decode cA_passed 2 = .ok (.invokevirtual 179, 3) := by decide +kernel
theorem dA_passed_5 : decode cA_passed 5 = .ok (.ifCond .eq 15, 3) := by decide +kernel
theorem dA_passed_8 : decode cA_passed 8 = .ok (.aload_n 0, 1) := by decide +kernel
theorem dA_passed_9 : decode cA_passed 9 = .ok (.getfield 66, 3) := by decide +kernel
theorem dA_passed_12 : decode cA_passed 12 = .ok (.getfield 182, 3) := by decide +kernel
theorem dA_passed_15 : decode cA_passed 15 = .ok (.iload_n 1, 1) := by decide +kernel
theorem dA_passed_16 : decode cA_passed 16 = .ok (.iaload, 1) := by decide +kernel
theorem dA_passed_17 : decode cA_passed 17 = .ok (.goto 4, 3) := by decide +kernel
theorem dA_passed_20 : decode cA_passed 20 = .ok (.iconst (-1), 1) := by decide +kernel
theorem dA_passed_21 : decode cA_passed 21 = .ok (.ireturn, 1) := by decide +kernel
theorem dA_along_0 : decode cA_along 0 = .ok (.aload_n 0, 1) := by decide +kernel
theorem dA_along_1 : decode cA_along 1 = .ok (.iload_n 1, 1) := by decide +kernel
theorem dA_along_2 : decode cA_along 2 = .ok (.invokevirtual 179, 3) := by decide +kernel
theorem dA_along_5 : decode cA_along 5 = .ok (.ifCond .eq 7, 3) := by decide +kernel
theorem dA_along_8 : decode cA_along 8 = .ok (.iload_n 2, 1) := by decide +kernel
theorem dA_along_9 : decode cA_along 9 = .ok (.ifCond .ge 6, 3) := by decide +kernel
theorem dA_along_12 : decode cA_along 12 = .ok (.ldc 145, 2) := by decide +kernel
theorem dA_along_14 : decode cA_along 14 = .ok (.ireturn, 1) := by decide +kernel
theorem dA_along_15 : decode cA_along 15 = .ok (.aload_n 0, 1) := by decide +kernel
theorem dA_along_16 : decode cA_along 16 = .ok (.getfield 57, 3) := by decide +kernel
theorem dA_along_19 : decode cA_along 19 = .ok (.iload_n 1, 1) := by decide +kernel
theorem dA_along_20 : decode cA_along 20 = .ok (.invokevirtual 185, 3) := by decide +kernel
theorem dA_along_23 : decode cA_along 23 = .ok (.istore_n 3, 1) := by decide +kernel
theorem dA_along_24 : decode cA_along 24 = .ok (.iload_n 2, 1) := by decide +kernel
theorem dA_along_25 : decode cA_along 25 = .ok (.ifCond .ne 7, 3) := by decide +kernel
theorem dA_along_28 : decode cA_along 28 = .ok (.iload_n 3, 1) := by decide +kernel
theorem dA_along_29 : decode cA_along 29 = .ok (.goto 13, 3) := by decide +kernel
theorem dA_along_32 : decode cA_along 32 = .ok (.aload_n 0, 1) := by decide +kernel
theorem dA_along_33 : decode cA_along 33 = .ok (.getfield 57, 3) := by decide +kernel
theorem dA_along_36 : decode cA_along 36 = .ok (.iload_n 1, 1) := by decide +kernel
theorem dA_along_37 : decode cA_along 37 = .ok (.iload_n 3, 1) := by decide +kernel
theorem dA_along_38 : decode cA_along 38 = .ok (.iload_n 2, 1) := by decide +kernel
theorem dA_along_39 : decode cA_along 39 = .ok (.invokevirtual 188, 3) := by decide +kernel
theorem dA_along_42 : decode cA_along 42 = .ok (.ireturn, 1) := by decide +kernel
theorem dA_stopped_0 : decode cA_stopped 0 = .ok (.aload_n 0, 1) := by decide +kernel
theorem dA_stopped_1 : decode cA_stopped 1 = .ok (.iload_n 1, 1) := by decide +kernel
theorem dA_stopped_2 : decode cA_stopped 2 = .ok (.invokevirtual 132, 3) := by decide +kernel
theorem dA_stopped_5 : decode cA_stopped 5 = .ok (.ifCond .eq 15, 3) := by decide +kernel
theorem dA_stopped_8 : decode cA_stopped 8 = .ok (.aload_n 0, 1) := by decide +kernel
theorem dA_stopped_9 : decode cA_stopped 9 = .ok (.getfield 66, 3) := by decide +kernel
theorem dA_stopped_12 : decode cA_stopped 12 = .ok (.getfield 167, 3) := by decide +kernel
theorem dA_stopped_15 : decode cA_stopped 15 = .ok (.iload_n 1, 1) := by decide +kernel
theorem dA_stopped_16 : decode cA_stopped 16 = .ok (.iaload, 1) := by decide +kernel
theorem dA_stopped_17 : decode cA_stopped 17 = .ok (.goto 4, 3) := by decide +kernel
theorem dA_stopped_20 : decode cA_stopped 20 = .ok (.iconst (-1), 1) := by decide +kernel
theorem dA_stopped_21 : decode cA_stopped 21 = .ok (.ireturn, 1) := by decide +kernel
theorem dA_covered_0 : decode cA_covered 0 = .ok (.aload_n 0, 1) := by decide +kernel
theorem dA_covered_1 : decode cA_covered 1 = .ok (.getfield 70, 3) := by decide +kernel
theorem dA_covered_4 : decode cA_covered 4 = .ok (.ifCond .ne 5, 3) := by decide +kernel
theorem dA_covered_7 : decode cA_covered 7 = .ok (.iconst (-1), 1) := by decide +kernel
theorem dA_covered_8 : decode cA_covered 8 = .ok (.ireturn, 1) := by decide +kernel
theorem dA_covered_9 : decode cA_covered 9 = .ok (.iload_n 1, 1) := by decide +kernel
theorem dA_covered_44 : decode cA_covered 44 = .ok (.aload_n 0, 1) := by decide +kernel
theorem dA_covered_45 : decode cA_covered 45 = .ok (.getfield 66, 3) := by decide +kernel
theorem dA_covered_48 : decode cA_covered 48 = .ok (.aload_n 0, 1) := by decide +kernel
theorem dA_covered_49 : decode cA_covered 49 = .ok (.getfield 74, 3) := by decide +kernel
theorem dA_covered_52 : decode cA_covered 52 = .ok (.invokevirtual 192, 3) := by decide +kernel
theorem dA_covered_55 : decode cA_covered 55 = .ok (.ireturn, 1) := by decide +kernel
theorem dA_covered_56 : decode cA_covered 56 = .ok (.aload_n 0, 1) := by decide +kernel
theorem dA_covered_57 : decode cA_covered 57 = .ok (.getfield 66, 3) := by decide +kernel
theorem dA_covered_60 : decode cA_covered 60 = .ok (.aload_n 0, 1) := by decide +kernel
theorem dA_covered_61 : decode cA_covered 61 = .ok (.getfield 74, 3) := by decide +kernel
theorem dA_covered_64 : decode cA_covered 64 = .ok (.invokevirtual 195, 3) := by decide +kernel
theorem dA_covered_67 : decode cA_covered 67 = .ok (.ireturn, 1) := by decide +kernel
theorem dA_covered_68 : decode cA_covered 68 = .ok (.aload_n 0, 1) := by decide +kernel
theorem dA_covered_69 : decode cA_covered 69 = .ok (.getfield 66, 3) := by decide +kernel
theorem dA_covered_72 : decode cA_covered 72 = .ok (.invokevirtual 198, 3) := by decide +kernel
theorem dA_covered_75 : decode cA_covered 75 = .ok (.ireturn, 1) := by decide +kernel
theorem dA_covered_76 : decode cA_covered 76 = .ok (.aload_n 0, 1) := by decide +kernel
theorem dA_covered_77 : decode cA_covered 77 = .ok (.getfield 66, 3) := by decide +kernel
theorem dA_covered_80 : decode cA_covered 80 = .ok (.iconst 0, 1) := by decide +kernel
theorem dA_covered_81 : decode cA_covered 81 = .ok (.aload_n 0, 1) := by decide +kernel
theorem dA_covered_82 : decode cA_covered 82 = .ok (.getfield 74, 3) := by decide +kernel
theorem dA_covered_85 : decode cA_covered 85 = .ok (.invokevirtual 176, 3) := by decide +kernel
theorem dA_covered_88 : decode cA_covered 88 = .ok (.ireturn, 1) := by decide +kernel
theorem dA_covered_89 : decode cA_covered 89 = .ok (.aload_n 0, 1) := by decide +kernel
theorem dA_covered_90 : decode cA_covered 90 = .ok (.getfield 66, 3) := by decide +kernel
theorem dA_covered_93 : decode cA_covered 93 = .ok (.iconst 1, 1) := by decide +kernel
theorem dA_covered_94 : decode cA_covered 94 = .ok (.aload_n 0, 1) := by decide +kernel
theorem dA_covered_95 : decode cA_covered 95 = .ok (.getfield 74, 3) := by decide +kernel
theorem dA_covered_98 : decode cA_covered 98 = .ok (.invokevirtual 176, 3) := by decide +kernel
theorem dA_covered_101 : decode cA_covered 101 = .ok (.ireturn, 1) := by decide +kernel
theorem dA_covered_102 : decode cA_covered 102 = .ok (.iconst (-1), 1) := by decide +kernel
theorem dA_covered_103 : decode cA_covered 103 = .ok (.ireturn, 1) := by decide +kernel
theorem dA_clear_0 : decode cA_clear 0 = .ok (.aload_n 0, 1) := by decide +kernel
theorem dA_clear_1 : decode cA_clear 1 = .ok (.getfield 66, 3) := by decide +kernel
theorem dA_clear_4 : decode cA_clear 4 = .ok (.invokevirtual 202, 3) := by decide +kernel
end
section
/-! rows that decode, A -/
theorem dA_clear_7 : decode cA_clear 7 = .ok (.aload_n 0, 1) := by decide +kernel
theorem dA_clear_8 : decode cA_clear 8 = .ok (.invokevirtual 170, 3) := by decide +kernel
theorem dA_clear_11 : decode cA_clear 11 = .ok (.return_, 1) := by decide +kernel
theorem dA_knowsEdge_0 : decode cA_knowsEdge 0 = .ok (.aload_n 0, 1) := by decide +kernel
theorem dA_knowsEdge_1 : decode cA_knowsEdge 1 = .ok (.getfield 70, 3) := by decide +kernel
theorem dA_knowsEdge_4 : decode cA_knowsEdge 4 = .ok (.ifCond .eq 18, 3) := by decide +kernel
theorem dA_knowsEdge_7 : decode cA_knowsEdge 7 = .ok (.aload_n 0, 1) := by decide +kernel
theorem dA_knowsEdge_8 : decode cA_knowsEdge 8 = .ok (.getfield 25, 3) := by decide +kernel
theorem dA_knowsEdge_11 : decode cA_knowsEdge 11 = .ok (.iload_n 1, 1) := by decide +kernel
theorem dA_knowsEdge_12 : decode cA_knowsEdge 12 = .ok (.invokevirtual 152, 3) := by decide +kernel
theorem dA_knowsEdge_15 : decode cA_knowsEdge 15 = .ok (.ifCond .eq 7, 3) := by decide +kernel
theorem dA_knowsEdge_18 : decode cA_knowsEdge 18 = .ok (.iconst 1, 1) := by decide +kernel
theorem dA_knowsEdge_19 : decode cA_knowsEdge 19 = .ok (.goto 4, 3) := by decide +kernel
theorem dA_knowsEdge_22 : decode cA_knowsEdge 22 = .ok (.iconst 0, 1) := by decide +kernel
theorem dA_knowsEdge_23 : decode cA_knowsEdge 23 = .ok (.ireturn, 1) := by decide +kernel
theorem dA_knowsBlock_0 : decode cA_knowsBlock 0 = .ok (.aload_n 0, 1) := by decide +kernel
theorem dA_knowsBlock_1 : decode cA_knowsBlock 1 = .ok (.getfield 70, 3) := by decide +kernel
theorem dA_knowsBlock_4 : decode cA_knowsBlock 4 = .ok (.ifCond .eq 18, 3) := by decide +kernel
theorem dA_knowsBlock_7 : decode cA_knowsBlock 7 = .ok (.aload_n 0, 1) := by decide +kernel
theorem dA_knowsBlock_8 : decode cA_knowsBlock 8 = .ok (.getfield 25, 3) := by decide +kernel
theorem dA_knowsBlock_11 : decode cA_knowsBlock 11 = .ok (.iload_n 1, 1) := by decide +kernel
theorem dA_knowsBlock_12 : decode cA_knowsBlock 12 = .ok (.invokevirtual 81, 3) := by decide +kernel
theorem dA_knowsBlock_15 : decode cA_knowsBlock 15 = .ok (.ifCond .eq 7, 3) := by decide +kernel
theorem dA_knowsBlock_18 : decode cA_knowsBlock 18 = .ok (.iconst 1, 1) := by decide +kernel
theorem dA_knowsBlock_19 : decode cA_knowsBlock 19 = .ok (.goto 4, 3) := by decide +kernel
theorem dA_knowsBlock_22 : decode cA_knowsBlock 22 = .ok (.iconst 0, 1) := by decide +kernel
theorem dA_knowsBlock_23 : decode cA_knowsBlock 23 = .ok (.ireturn, 1) := by decide +kernel
theorem dA_knowsWay_0 : decode cA_knowsWay 0 = .ok (.aload_n 0, 1) := by decide +kernel
theorem dA_knowsWay_1 : decode cA_knowsWay 1 = .ok (.getfield 70, 3) := by decide +kernel
theorem dA_knowsWay_4 : decode cA_knowsWay 4 = .ok (.ifCond .eq 22, 3) := by decide +kernel
theorem dA_knowsWay_7 : decode cA_knowsWay 7 = .ok (.iload_n 1, 1) := by decide +kernel
theorem dA_knowsWay_8 : decode cA_knowsWay 8 = .ok (.ifCond .lt 18, 3) := by decide +kernel
theorem dA_knowsWay_11 : decode cA_knowsWay 11 = .ok (.iload_n 1, 1) := by decide +kernel
theorem dA_knowsWay_12 : decode cA_knowsWay 12 = .ok (.aload_n 0, 1) := by decide +kernel
theorem dA_knowsWay_13 : decode cA_knowsWay 13 = .ok (.getfield 57, 3) := by decide +kernel
theorem dA_knowsWay_16 : decode cA_knowsWay 16 = .ok (.getfield 104, 3) := by decide +kernel
theorem dA_knowsWay_19 : decode cA_knowsWay 19 = .ok (.if_icmp .ge 7, 3) := by decide +kernel
theorem dA_knowsWay_22 : decode cA_knowsWay 22 = .ok (.iconst 1, 1) := by decide +kernel
theorem dA_knowsWay_23 : decode cA_knowsWay 23 = .ok (.goto 4, 3) := by decide +kernel
theorem dA_knowsWay_26 : decode cA_knowsWay 26 = .ok (.iconst 0, 1) := by decide +kernel
theorem dA_knowsWay_27 : decode cA_knowsWay 27 = .ok (.ireturn, 1) := by decide +kernel
theorem dA_isUnderWay_0 : decode cA_isUnderWay 0 = .ok (.aload_n 0, 1) := by decide +kernel
theorem dA_isUnderWay_1 : decode cA_isUnderWay 1 = .ok (.getfield 74, 3) := by decide +kernel
theorem dA_isUnderWay_4 : decode cA_isUnderWay 4 = .ok (.iconst (-1), 1) := by decide +kernel
theorem dA_isUnderWay_5 : decode cA_isUnderWay 5 = .ok (.if_icmp .eq 7, 3) := by decide +kernel
theorem dA_isUnderWay_8 : decode cA_isUnderWay 8 = .ok (.iconst 1, 1) := by decide +kernel
theorem dA_isUnderWay_9 : decode cA_isUnderWay 9 = .ok (.goto 4, 3) := by decide +kernel
theorem dA_isUnderWay_12 : decode cA_isUnderWay 12 = .ok (.iconst 0, 1) := by decide +kernel
theorem dA_isUnderWay_13 : decode cA_isUnderWay 13 = .ok (.ireturn, 1) := by decide +kernel
theorem dA_pass_0 : decode cA_pass 0 = .ok (.aload_n 0, 1) := by decide +kernel
theorem dA_pass_1 : decode cA_pass 1 = .ok (.getfield 66, 3) := by decide +kernel
theorem dA_pass_4 : decode cA_pass 4 = .ok (.iload_n 1, 1) := by decide +kernel
theorem dA_pass_5 : decode cA_pass 5 = .ok (.invokevirtual 205, 3) := by decide +kernel
theorem dA_pass_8 : decode cA_pass 8 = .ok (.aload_n 0, 1) := by decide +kernel
theorem dA_pass_9 : decode cA_pass 9 = .ok (.dup, 1) := by decide +kernel
theorem dA_pass_10 : decode cA_pass 10 = .ok (.getfield 78, 3) := by decide +kernel
theorem dA_pass_13 : decode cA_pass 13 = .ok (.aload_n 0, 1) := by decide +kernel
theorem dA_pass_14 : decode cA_pass 14 = .ok (.getfield 57, 3) := by decide +kernel
theorem dA_pass_17 : decode cA_pass 17 = .ok (.iload_n 1, 1) := by decide +kernel
theorem dA_pass_18 : decode cA_pass 18 = .ok (.invokevirtual 141, 3) := by decide +kernel
theorem dA_pass_21 : decode cA_pass 21 = .ok (.iadd, 1) := by decide +kernel
theorem dA_pass_22 : decode cA_pass 22 = .ok (.putfield 78, 3) := by decide +kernel
theorem dA_pass_25 : decode cA_pass 25 = .ok (.aload_n 0, 1) := by decide +kernel
theorem dA_pass_26 : decode cA_pass 26 = .ok (.aload_n 0, 1) := by decide +kernel
theorem dA_pass_27 : decode cA_pass 27 = .ok (.getfield 25, 3) := by decide +kernel
theorem dA_pass_30 : decode cA_pass 30 = .ok (.getfield 161, 3) := by decide +kernel
theorem dA_pass_33 : decode cA_pass 33 = .ok (.iload_n 1, 1) := by decide +kernel
theorem dA_pass_34 : decode cA_pass 34 = .ok (.iaload, 1) := by decide +kernel
theorem dA_pass_35 : decode cA_pass 35 = .ok (.putfield 74, 3) := by decide +kernel
theorem dA_pass_38 : decode cA_pass 38 = .ok (.aload_n 0, 1) := by decide +kernel
theorem dA_pass_39 : decode cA_pass 39 = .ok (.getfield 34, 3) := by decide +kernel
theorem dA_pass_42 : decode cA_pass 42 = .ok (.getfield 128, 3) := by decide +kernel
theorem dA_pass_45 : decode cA_pass 45 = .ok (.iload_n 1, 1) := by decide +kernel
theorem dA_pass_46 : decode cA_pass 46 = .ok (.baload, 1) := by decide +kernel
theorem dA_pass_47 : decode cA_pass 47 = .ok (.ifCond .eq 22, 3) := by decide +kernel
theorem dA_pass_50 : decode cA_pass 50 = .ok (.aload_n 0, 1) := by decide +kernel
theorem dA_pass_51 : decode cA_pass 51 = .ok (.invokevirtual 208, 3) := by decide +kernel
theorem dA_pass_54 : decode cA_pass 54 = .ok (.aload_n 0, 1) := by decide +kernel
theorem dA_pass_55 : decode cA_pass 55 = .ok (.aload_n 0, 1) := by decide +kernel
theorem dA_pass_56 : decode cA_pass 56 = .ok (.getfield 57, 3) := by decide +kernel
theorem dA_pass_59 : decode cA_pass 59 = .ok (.iload_n 1, 1) := by decide +kernel
theorem dA_pass_60 : decode cA_pass 60 = .ok (.invokevirtual 146, 3) := by decide +kernel
theorem dA_pass_63 : decode cA_pass 63 = .ok (.putfield 78, 3) := by decide +kernel
theorem dA_pass_66 : decode cA_pass 66 = .ok (.goto 19, 3) := by decide +kernel
theorem dA_pass_69 : decode cA_pass 69 = .ok (.aload_n 0, 1) := by decide +kernel
theorem dA_pass_70 : decode cA_pass 70 = .ok (.getfield 74, 3) := by decide +kernel
theorem dA_pass_73 : decode cA_pass 73 = .ok (.iconst 1, 1) := by decide +kernel
theorem dA_pass_74 : decode cA_pass 74 = .ok (.if_icmp .ne 11, 3) := by decide +kernel
theorem dA_pass_77 : decode cA_pass 77 = .ok (.aload_n 0, 1) := by decide +kernel
theorem dA_pass_78 : decode cA_pass 78 = .ok (.invokevirtual 208, 3) := by decide +kernel
theorem dA_pass_81 : decode cA_pass 81 = .ok (.aload_n 0, 1) := by decide +kernel
theorem dA_pass_82 : decode cA_pass 82 = .ok (.invokevirtual 170, 3) := by decide +kernel
theorem dA_pass_85 : decode cA_pass 85 = .ok (.return_, 1) := by decide +kernel
theorem dA_completeWay_0 : decode cA_completeWay 0 = .ok (.aload_n 0, 1) := by decide +kernel
theorem dA_completeWay_1 : decode cA_completeWay 1 = .ok (.aload_n 0, 1) := by decide +kernel
theorem dA_completeWay_2 : decode cA_completeWay 2 = .ok (.getfield 78, 3) := by decide +kernel
theorem dA_completeWay_5 : decode cA_completeWay 5 = .ok (.invokevirtual 179, 3) := by decide +kernel
theorem dA_completeWay_8 : decode cA_completeWay 8 = .ok (.ifCond .eq 19, 3) := by decide +kernel
theorem dA_completeWay_11 : decode cA_completeWay 11 = .ok (.aload_n 0, 1) := by decide +kernel
theorem dA_completeWay_12 : decode cA_completeWay 12 = .ok (.getfield 66, 3) := by decide +kernel
theorem dA_completeWay_15 : decode cA_completeWay 15 = .ok (.getfield 182, 3) := by decide +kernel
theorem dA_completeWay_18 : decode cA_completeWay 18 = .ok (.aload_n 0, 1) := by decide +kernel
theorem dA_completeWay_19 : decode cA_completeWay 19 = .ok (.getfield 78, 3) := by decide +kernel
theorem dA_completeWay_22 : decode cA_completeWay 22 = .ok (.dup2, 1) := by decide +kernel
theorem dA_completeWay_23 : decode cA_completeWay 23 = .ok (.iaload, 1) := by decide +kernel
theorem dA_completeWay_24 : decode cA_completeWay 24 = .ok (.iconst 1, 1) := by decide +kernel
theorem dA_completeWay_25 : decode cA_completeWay 25 = .ok (.iadd, 1) := by decide +kernel
theorem dA_completeWay_26 : decode cA_completeWay 26 = .ok (.iastore, 1) := by decide +kernel
theorem dA_completeWay_27 : decode cA_completeWay 27 = .ok (.return_, 1) := by decide +kernel
theorem dA_endRun_0 : decode cA_endRun 0 = .ok (.aload_n 0, 1) := by decide +kernel
theorem dA_endRun_1 : decode cA_endRun 1 = .ok (.iconst (-1), 1) := by decide +kernel
theorem dA_endRun_2 : decode cA_endRun 2 = .ok (.putfield 74, 3) := by decide +kernel
theorem dA_endRun_5 : decode cA_endRun 5 = .ok (.aload_n 0, 1) := by decide +kernel
theorem dA_endRun_6 : decode cA_endRun 6 = .ok (.iconst 0, 1) := by decide +kernel
theorem dA_endRun_7 : decode cA_endRun 7 = .ok (.putfield 78, 3) := by decide +kernel
theorem dA_endRun_10 : decode cA_endRun 10 = .ok (.return_, 1) := by decide +kernel
theorem dA_bit_0 : decode cA_bit 0 = .ok (.iconst 1, 1) := by decide +kernel
theorem dA_bit_1 : decode cA_bit 1 = .ok (.iload_n 0, 1) := by decide +kernel
theorem dA_bit_2 : decode cA_bit 2 = .ok (.ishl, 1) := by decide +kernel
theorem dA_bit_3 : decode cA_bit 3 = .ok (.ireturn, 1) := by decide +kernel
theorem dA_isIn_0 : decode cA_isIn 0 = .ok (.iload_n 0, 1) := by decide +kernel
theorem dA_isIn_1 : decode cA_isIn 1 = .ok (.iload_n 1, 1) := by decide +kernel
theorem dA_isIn_2 : decode cA_isIn 2 = .ok (.ishr, 1) := by decide +kernel
theorem dA_isIn_3 : decode cA_isIn 3 = .ok (.iconst 1, 1) := by decide +kernel
theorem dA_isIn_4 : decode cA_isIn 4 = .ok (.iand, 1) := by decide +kernel
theorem dA_isIn_5 : decode cA_isIn 5 = .ok (.ifCond .eq 7, 3) := by decide +kernel
theorem dA_isIn_8 : decode cA_isIn 8 = .ok (.iconst 1, 1) := by decide +kernel
theorem dA_isIn_9 : decode cA_isIn 9 = .ok (.goto 4, 3) := by decide +kernel
theorem dA_isIn_12 : decode cA_isIn 12 = .ok (.iconst 0, 1) := by decide +kernel
theorem dA_isIn_13 : decode cA_isIn 13 = .ok (.ireturn, 1) := by decide +kernel
end
section
/-! rows that decode, C -/
theorem dC_init_0 : decode cC_init 0 = .ok (.aload_n 0, 1) := by decide +kernel
theorem dC_init_1 : decode cC_init 1 = .ok (.invokespecial 3, 3) := by decide +kernel
theorem dC_init_4 : decode cC_init 4 = .ok (.aload_n 0, 1) := by decide +kernel
theorem dC_init_5 : decode cC_init 5 = .ok (.aload_n 1, 1) := by decide +kernel
theorem dC_init_6 : decode cC_init 6 = .ok (.putfield 9, 3) := by decide +kernel
theorem dC_init_9 : decode cC_init 9 = .ok (.aload_n 0, 1) := by decide +kernel
theorem dC_init_10 : decode cC_init 10 = .ok (.aload_n 2, 1) := by decide +kernel
theorem dC_init_11 : decode cC_init 11 = .ok (.putfield 15, 3) := by decide +kernel
theorem dC_init_14 : decode cC_init 14 = .ok (.aload_n 0, 1) := by decide +kernel
theorem dC_init_15 : decode cC_init 15 = .ok (.bipush 24, 2) := by decide +kernel
theorem dC_init_17 : decode cC_init 17 = .ok (.newarray .int, 2) := by decide +kernel
theorem dC_init_19 : decode cC_init 19 = .ok (.putfield 19, 3) := by decide +kernel
theorem dC_init_22 : decode cC_init 22 = .ok (.aload_n 0, 1) := by decide +kernel
theorem dC_init_23 : decode cC_init 23 = .ok (.bipush 24, 2) := by decide +kernel
theorem dC_init_25 : decode cC_init 25 = .ok (.newarray .int, 2) := by decide +kernel
theorem dC_init_27 : decode cC_init 27 = .ok (.putfield 23, 3) := by decide +kernel
theorem dC_init_30 : decode cC_init 30 = .ok (.aload_n 0, 1) := by decide +kernel
theorem dC_init_31 : decode cC_init 31 = .ok (.bipush 12, 2) := by decide +kernel
theorem dC_init_33 : decode cC_init 33 = .ok (.newarray .int, 2) := by decide +kernel
theorem dC_init_35 : decode cC_init 35 = .ok (.putfield 26, 3) := by decide +kernel
theorem dC_init_38 : decode cC_init 38 = .ok (.aload_n 0, 1) := by decide +kernel
theorem dC_init_39 : decode cC_init 39 = .ok (.sipush 200, 3) := by decide +kernel
theorem dC_init_42 : decode cC_init 42 = .ok (.newarray .int, 2) := by decide +kernel
theorem dC_init_44 : decode cC_init 44 = .ok (.putfield 29, 3) := by decide +kernel
theorem dC_init_47 : decode cC_init 47 = .ok (.return_, 1) := by decide +kernel
theorem dC_forget_0 : decode cC_forget 0 = .ok (.aload_n 0, 1) := by decide +kernel
theorem dC_forget_1 : decode cC_forget 1 = .ok (.getfield 23, 3) := by decide +kernel
theorem dC_forget_4 : decode cC_forget 4 = .ok (.iconst 0, 1) := by decide +kernel
theorem dC_forget_5 : decode cC_forget 5 = .ok (.invokestatic 32, 3) := by decide +kernel
theorem dC_forget_8 : decode cC_forget 8 = .ok (.aload_n 0, 1) := by decide +kernel
theorem dC_forget_9 : decode cC_forget 9 = .ok (.getfield 26, 3) := by decide +kernel
theorem dC_forget_12 : decode cC_forget 12 = .ok (.iconst 0, 1) := by decide +kernel
theorem dC_forget_13 : decode cC_forget 13 = .ok (.invokestatic 32, 3) := by decide +kernel
theorem dC_forget_16 : decode cC_forget 16 = .ok (.aload_n 0, 1) := by decide +kernel
theorem dC_forget_17 : decode cC_forget 17 = .ok (.getfield 29, 3) := by decide +kernel
theorem dC_forget_20 : decode cC_forget 20 = .ok (.iconst 0, 1) := by decide +kernel
theorem dC_forget_21 : decode cC_forget 21 = .ok (.invokestatic 32, 3) := by decide +kernel
theorem dC_forget_24 : decode cC_forget 24 = .ok (.return_, 1) := by decide +kernel
theorem dC_cut_0 : decode cC_cut 0 = .ok (.iconst 0, 1) := by decide +kernel
theorem dC_cut_1 : decode cC_cut 1 = .ok (.istore_n 1, 1) := by decide +kernel
theorem dC_cut_2 : decode cC_cut 2 = .ok (.iload_n 1, 1) := by decide +kernel
theorem dC_cut_3 : decode cC_cut 3 = .ok (.aload_n 0, 1) := by decide +kernel
theorem dC_cut_4 : decode cC_cut 4 = .ok (.getfield 9, 3) := by decide +kernel
theorem dC_cut_7 : decode cC_cut 7 = .ok (.getfield 38, 3) := by decide +kernel
theorem dC_cut_10 : decode cC_cut 10 = .ok (.if_icmp .ge 39, 3) := by decide +kernel
theorem dC_cut_13 : decode cC_cut 13 = .ok (.aload_n 0, 1) := by decide +kernel
theorem dC_cut_14 : decode cC_cut 14 = .ok (.getfield 19, 3) := by decide +kernel
theorem dC_cut_17 : decode cC_cut 17 = .ok (.iload_n 1, 1) := by decide +kernel
theorem dC_cut_18 : decode cC_cut 18 = .ok (.aload_n 0, 1) := by decide +kernel
theorem dC_cut_19 : decode cC_cut 19 = .ok (.getfield 15, 3) := by decide +kernel
theorem dC_cut_22 : decode cC_cut 22 = .ok (.getfield 44, 3) := by decide +kernel
theorem dC_cut_25 : decode cC_cut 25 = .ok (.iload_n 1, 1) := by decide +kernel
theorem dC_cut_26 : decode cC_cut 26 = .ok (.baload, 1) := by decide +kernel
theorem dC_cut_27 : decode cC_cut 27 = .ok (.ifCond .eq 14, 3) := by decide +kernel
theorem dC_cut_30 : decode cC_cut 30 = .ok (.aload_n 0, 1) := by decide +kernel
theorem dC_cut_31 : decode cC_cut 31 = .ok (.getfield 15, 3) := by decide +kernel
theorem dC_cut_34 : decode cC_cut 34 = .ok (.iload_n 1, 1) := by decide +kernel
theorem dC_cut_35 : decode cC_cut 35 = .ok (.invokevirtual 50, 3) := by decide +kernel
theorem dC_cut_38 : decode cC_cut 38 = .ok (.goto 4, 3) := by decide +kernel
theorem dC_cut_41 : decode cC_cut 41 = .ok (.iconst 0, 1) := by decide +kernel
theorem dC_cut_42 : decode cC_cut 42 = .ok (.iastore, 1) := by decide +kernel
theorem dC_cut_43 : decode cC_cut 43 = .ok (.iinc 1 1, 3) := by decide +kernel
theorem dC_cut_46 : decode cC_cut 46 = .ok (.goto (-44), 3) := by decide +kernel
theorem dC_cut_49 : decode cC_cut 49 = .ok (.return_, 1) := by decide +kernel
theorem dC_hit_0 : decode cC_hit 0 = .ok (.aload_n 0, 1) := by decide +kernel
theorem dC_hit_1 : decode cC_hit 1 = .ok (.getfield 15, 3) := by decide +kernel
theorem dC_hit_4 : decode cC_hit 4 = .ok (.getfield 44, 3) := by decide +kernel
theorem dC_hit_7 : decode cC_hit 7 = .ok (.iload_n 1, 1) := by decide +kernel
theorem dC_hit_8 : decode cC_hit 8 = .ok (.baload, 1) := by decide +kernel
theorem dC_hit_9 : decode cC_hit 9 = .ok (.ifCond .ne 13, 3) := by decide +kernel
theorem dC_hit_12 : decode cC_hit 12 = .ok (.aload_n 0, 1) := by decide +kernel
theorem dC_hit_13 : decode cC_hit 13 = .ok (.getfield 23, 3) := by decide +kernel
theorem dC_hit_16 : decode cC_hit 16 = .ok (.iload_n 1, 1) := by decide +kernel
theorem dC_hit_17 : decode cC_hit 17 = .ok (.dup2, 1) := by decide +kernel
theorem dC_hit_18 : decode cC_hit 18 = .ok (.iaload, 1) := by decide +kernel
theorem dC_hit_19 : decode cC_hit 19 = .ok (.iconst 1, 1) := by decide +kernel
theorem dC_hit_20 : decode cC_hit 20 = .ok (.iadd, 1) := by decide +kernel
theorem dC_hit_21 : decode cC_hit 21 = .ok (.iastore, 1) := by decide +kernel
theorem dC_hit_22 : decode cC_hit 22 = .ok (.return_, 1) := by decide +kernel
theorem dC_passesOf_0 : decode cC_passesOf 0 = .ok (.aload_n 0, 1) := by decide +kernel
theorem dC_passesOf_1 : decode cC_passesOf 1 = .ok (.getfield 15, 3) := by decide +kernel
theorem dC_passesOf_4 : decode cC_passesOf 4 = .ok (.getfield 44, 3) := by decide +kernel
theorem dC_passesOf_7 : decode cC_passesOf 7 = .ok (.iload_n 1, 1) := by decide +kernel
theorem dC_passesOf_8 : decode cC_passesOf 8 = .ok (.baload, 1) := by decide +kernel
theorem dC_passesOf_9 : decode cC_passesOf 9 = .ok (.ifCond .ne 10, 3) := by decide +kernel
theorem dC_passesOf_12 : decode cC_passesOf 12 = .ok (.aload_n 0, 1) := by decide +kernel
theorem dC_passesOf_13 : decode cC_passesOf 13 = .ok (.getfield 23, 3) := by decide +kernel
theorem dC_passesOf_16 : decode cC_passesOf 16 = .ok (.iload_n 1, 1) := by decide +kernel
theorem dC_passesOf_17 : decode cC_passesOf 17 = .ok (.iaload, 1) := by decide +kernel
theorem dC_passesOf_18 : decode cC_passesOf 18 = .ok (.ireturn, 1) := by decide +kernel
theorem dC_passesOf_19 : decode cC_passesOf 19 = .ok (.aload_n 0, 1) := by decide +kernel
theorem dC_passesOf_20 : decode cC_passesOf 20 = .ok (.aload_n 0, 1) := by decide +kernel
theorem dC_passesOf_21 : decode cC_passesOf 21 = .ok (.getfield 19, 3) := by decide +kernel
theorem dC_passesOf_24 : decode cC_passesOf 24 = .ok (.iload_n 1, 1) := by decide +kernel
theorem dC_passesOf_25 : decode cC_passesOf 25 = .ok (.iaload, 1) := by decide +kernel
theorem dC_passesOf_26 : decode cC_passesOf 26 = .ok (.iload_n 2, 1) := by decide +kernel
theorem dC_passesOf_27 : decode cC_passesOf 27 = .ok (.invokevirtual 54, 3) := by decide +kernel
theorem dC_passesOf_30 : decode cC_passesOf 30 = .ok (.aload_n 0, 1) := by decide +kernel
theorem dC_passesOf_31 : decode cC_passesOf 31 = .ok (.aload_n 0, 1) := by decide +kernel
theorem dC_passesOf_32 : decode cC_passesOf 32 = .ok (.getfield 19, 3) := by decide +kernel
theorem dC_passesOf_35 : decode cC_passesOf 35 = .ok (.iload_n 1, 1) := by decide +kernel
theorem dC_passesOf_36 : decode cC_passesOf 36 = .ok (.iaload, 1) := by decide +kernel
theorem dC_passesOf_37 : decode cC_passesOf 37 = .ok (.invokevirtual 58, 3) := by decide +kernel
theorem dC_passesOf_40 : decode cC_passesOf 40 = .ok (.iadd, 1) := by decide +kernel
theorem dC_passesOf_41 : decode cC_passesOf 41 = .ok (.istore_n 3, 1) := by decide +kernel
theorem dC_passesOf_42 : decode cC_passesOf 42 = .ok (.aload_n 0, 1) := by decide +kernel
theorem dC_passesOf_43 : decode cC_passesOf 43 = .ok (.getfield 19, 3) := by decide +kernel
theorem dC_passesOf_46 : decode cC_passesOf 46 = .ok (.iload_n 1, 1) := by decide +kernel
theorem dC_passesOf_47 : decode cC_passesOf 47 = .ok (.iaload, 1) := by decide +kernel
theorem dC_passesOf_48 : decode cC_passesOf 48 = .ok (.aload_n 0, 1) := by decide +kernel
theorem dC_passesOf_49 : decode cC_passesOf 49 = .ok (.getfield 9, 3) := by decide +kernel
theorem dC_passesOf_52 : decode cC_passesOf 52 = .ok (.getfield 61, 3) := by decide +kernel
theorem dC_passesOf_55 : decode cC_passesOf 55 = .ok (.iload_n 1, 1) := by decide +kernel
theorem dC_passesOf_56 : decode cC_passesOf 56 = .ok (.iaload, 1) := by decide +kernel
theorem dC_passesOf_57 : decode cC_passesOf 57 = .ok (.invokestatic 64, 3) := by decide +kernel
theorem dC_passesOf_60 : decode cC_passesOf 60 = .ok (.ifCond .eq 7, 3) := by decide +kernel
theorem dC_passesOf_63 : decode cC_passesOf 63 = .ok (.iload_n 3, 1) := by decide +kernel
theorem dC_passesOf_64 : decode cC_passesOf 64 = .ok (.goto 5, 3) := by decide +kernel
theorem dC_passesOf_67 : decode cC_passesOf 67 = .ok (.iload_n 3, 1) := by decide +kernel
theorem dC_passesOf_68 : decode cC_passesOf 68 = .ok (.ineg, 1) := by decide +kernel
theorem dC_passesOf_69 : decode cC_passesOf 69 = .ok (.ireturn, 1) := by decide +kernel
theorem dC_runsLeftIn_0 : decode cC_runsLeftIn 0 = .ok (.iload_n 2, 1) := by decide +kernel
theorem dC_runsLeftIn_1 : decode cC_runsLeftIn 1 = .ok (.iconst (-1), 1) := by decide +kernel
theorem dC_runsLeftIn_2 : decode cC_runsLeftIn 2 = .ok (.if_icmp .eq 15, 3) := by decide +kernel
theorem dC_runsLeftIn_5 : decode cC_runsLeftIn 5 = .ok (.iload_n 1, 1) := by decide +kernel
theorem dC_runsLeftIn_6 : decode cC_runsLeftIn 6 = .ok (.iload_n 2, 1) := by decide +kernel
theorem dC_runsLeftIn_7 : decode cC_runsLeftIn 7 = .ok (.invokestatic 64, 3) := by decide +kernel
theorem dC_runsLeftIn_10 : decode cC_runsLeftIn 10 = .ok (.ifCond .eq 7, 3) := by decide +kernel
theorem dC_runsLeftIn_13 : decode cC_runsLeftIn 13 = .ok (.iconst 1, 1) := by decide +kernel
theorem dC_runsLeftIn_14 : decode cC_runsLeftIn 14 = .ok (.goto 4, 3) := by decide +kernel
theorem dC_runsLeftIn_17 : decode cC_runsLeftIn 17 = .ok (.iconst 0, 1) := by decide +kernel
theorem dC_runsLeftIn_18 : decode cC_runsLeftIn 18 = .ok (.istore_n 3, 1) := by decide +kernel
theorem dC_runsLeftIn_19 : decode cC_runsLeftIn 19 = .ok (.iconst 0, 1) := by decide +kernel
theorem dC_runsLeftIn_20 : decode cC_runsLeftIn 20 = .ok (.istore 4, 2) := by decide +kernel
theorem dC_runsLeftIn_22 : decode cC_runsLeftIn 22 = .ok (.iload 4, 2) := by decide +kernel
theorem dC_runsLeftIn_24 : decode cC_runsLeftIn 24 = .ok (.aload_n 0, 1) := by decide +kernel
theorem dC_runsLeftIn_25 : decode cC_runsLeftIn 25 = .ok (.getfield 9, 3) := by decide +kernel
theorem dC_runsLeftIn_28 : decode cC_runsLeftIn 28 = .ok (.getfield 68, 3) := by decide +kernel
theorem dC_runsLeftIn_31 : decode cC_runsLeftIn 31 = .ok (.if_icmp .ge 28, 3) := by decide +kernel
theorem dC_runsLeftIn_34 : decode cC_runsLeftIn 34 = .ok (.iload_n 1, 1) := by decide +kernel
theorem dC_runsLeftIn_35 : decode cC_runsLeftIn 35 = .ok (.iload 4, 2) := by decide +kernel
theorem dC_runsLeftIn_37 : decode cC_runsLeftIn 37 = .ok (.invokestatic 64, 3) := by decide +kernel
theorem dC_runsLeftIn_40 : decode cC_runsLeftIn 40 = .ok (.ifCond .eq 13, 3) := by decide +kernel
theorem dC_runsLeftIn_43 : decode cC_runsLeftIn 43 = .ok (.iload_n 3, 1) := by decide +kernel
theorem dC_runsLeftIn_44 : decode cC_runsLeftIn 44 = .ok (.aload_n 0, 1) := by decide +kernel
theorem dC_runsLeftIn_45 : decode cC_runsLeftIn 45 = .ok (.getfield 26, 3) := by decide +kernel
theorem dC_runsLeftIn_48 : decode cC_runsLeftIn 48 = .ok (.iload 4, 2) := by decide +kernel
theorem dC_runsLeftIn_50 : decode cC_runsLeftIn 50 = .ok (.iaload, 1) := by decide +kernel
theorem dC_runsLeftIn_51 : decode cC_runsLeftIn 51 = .ok (.iadd, 1) := by decide +kernel
theorem dC_runsLeftIn_52 : decode cC_runsLeftIn 52 = .ok (.istore_n 3, 1) := by decide +kernel
theorem dC_runsLeftIn_53 : decode cC_runsLeftIn 53 = .ok (.iinc 4 1, 3) := by decide +kernel
theorem dC_runsLeftIn_56 : decode cC_runsLeftIn 56 = .ok (.goto (-34), 3) := by decide +kernel
theorem dC_runsLeftIn_59 : decode cC_runsLeftIn 59 = .ok (.iload_n 3, 1) := by decide +kernel
theorem dC_runsLeftIn_60 : decode cC_runsLeftIn 60 = .ok (.ireturn, 1) := by decide +kernel
theorem dC_hitsOutOf_0 : decode cC_hitsOutOf 0 = .ok (.iconst 0, 1) := by decide +kernel
theorem dC_hitsOutOf_1 : decode cC_hitsOutOf 1 = .ok (.istore_n 2, 1) := by decide +kernel
theorem dC_hitsOutOf_2 : decode cC_hitsOutOf 2 = .ok (.iconst 0, 1) := by decide +kernel
theorem dC_hitsOutOf_3 : decode cC_hitsOutOf 3 = .ok (.istore_n 3, 1) := by decide +kernel
theorem dC_hitsOutOf_4 : decode cC_hitsOutOf 4 = .ok (.iload_n 3, 1) := by decide +kernel
theorem dC_hitsOutOf_5 : decode cC_hitsOutOf 5 = .ok (.aload_n 0, 1) := by decide +kernel
theorem dC_hitsOutOf_6 : decode cC_hitsOutOf 6 = .ok (.getfield 9, 3) := by decide +kernel
theorem dC_hitsOutOf_9 : decode cC_hitsOutOf 9 = .ok (.getfield 38, 3) := by decide +kernel
theorem dC_hitsOutOf_12 : decode cC_hitsOutOf 12 = .ok (.if_icmp .ge 67, 3) := by decide +kernel
theorem dC_hitsOutOf_15 : decode cC_hitsOutOf 15 = .ok (.iload_n 2, 1) := by decide +kernel
theorem dC_hitsOutOf_16 : decode cC_hitsOutOf 16 = .ok (.iload_n 1, 1) := by decide +kernel
theorem dC_hitsOutOf_17 : decode cC_hitsOutOf 17 = .ok (.aload_n 0, 1) := by decide +kernel
theorem dC_hitsOutOf_18 : decode cC_hitsOutOf 18 = .ok (.getfield 9, 3) := by decide +kernel
theorem dC_hitsOutOf_21 : decode cC_hitsOutOf 21 = .ok (.getfield 71, 3) := by decide +kernel
theorem dC_hitsOutOf_24 : decode cC_hitsOutOf 24 = .ok (.iload_n 3, 1) := by decide +kernel
theorem dC_hitsOutOf_25 : decode cC_hitsOutOf 25 = .ok (.iaload, 1) := by decide +kernel
theorem dC_hitsOutOf_26 : decode cC_hitsOutOf 26 = .ok (.invokestatic 64, 3) := by decide +kernel
theorem dC_hitsOutOf_29 : decode cC_hitsOutOf 29 = .ok (.ifCond .eq 12, 3) := by decide +kernel
theorem dC_hitsOutOf_32 : decode cC_hitsOutOf 32 = .ok (.aload_n 0, 1) := by decide +kernel
theorem dC_hitsOutOf_33 : decode cC_hitsOutOf 33 = .ok (.getfield 23, 3) := by decide +kernel
theorem dC_hitsOutOf_36 : decode cC_hitsOutOf 36 = .ok (.iload_n 3, 1) := by decide +kernel
theorem dC_hitsOutOf_37 : decode cC_hitsOutOf 37 = .ok (.iaload, 1) := by decide +kernel
theorem dC_hitsOutOf_38 : decode cC_hitsOutOf 38 = .ok (.goto 4, 3) := by decide +kernel
theorem dC_hitsOutOf_41 : decode cC_hitsOutOf 41 = .ok (.iconst 0, 1) := by decide +kernel
theorem dC_hitsOutOf_42 : decode cC_hitsOutOf 42 = .ok (.iadd, 1) := by decide +kernel
theorem dC_hitsOutOf_43 : decode cC_hitsOutOf 43 = .ok (.istore_n 2, 1) := by decide +kernel
theorem dC_hitsOutOf_44 : decode cC_hitsOutOf 44 = .ok (.iload_n 2, 1) := by decide +kernel
theorem dC_hitsOutOf_45 : decode cC_hitsOutOf 45 = .ok (.iload_n 1, 1) := by decide +kernel
theorem dC_hitsOutOf_46 : decode cC_hitsOutOf 46 = .ok (.aload_n 0, 1) := by decide +kernel
theorem dC_hitsOutOf_47 : decode cC_hitsOutOf 47 = .ok (.getfield 9, 3) := by decide +kernel
theorem dC_hitsOutOf_50 : decode cC_hitsOutOf 50 = .ok (.getfield 61, 3) := by decide +kernel
theorem dC_hitsOutOf_53 : decode cC_hitsOutOf 53 = .ok (.iload_n 3, 1) := by decide +kernel
theorem dC_hitsOutOf_54 : decode cC_hitsOutOf 54 = .ok (.iaload, 1) := by decide +kernel
theorem dC_hitsOutOf_55 : decode cC_hitsOutOf 55 = .ok (.invokestatic 64, 3) := by decide +kernel
theorem dC_hitsOutOf_58 : decode cC_hitsOutOf 58 = .ok (.ifCond .eq 12, 3) := by decide +kernel
theorem dC_hitsOutOf_61 : decode cC_hitsOutOf 61 = .ok (.aload_n 0, 1) := by decide +kernel
theorem dC_hitsOutOf_62 : decode cC_hitsOutOf 62 = .ok (.getfield 23, 3) := by decide +kernel
theorem dC_hitsOutOf_65 : decode cC_hitsOutOf 65 = .ok (.iload_n 3, 1) := by decide +kernel
theorem dC_hitsOutOf_66 : decode cC_hitsOutOf 66 = .ok (.iaload, 1) := by decide +kernel
theorem dC_hitsOutOf_67 : decode cC_hitsOutOf 67 = .ok (.goto 4, 3) := by decide +kernel
theorem dC_hitsOutOf_70 : decode cC_hitsOutOf 70 = .ok (.iconst 0, 1) := by decide +kernel
theorem dC_hitsOutOf_71 : decode cC_hitsOutOf 71 = .ok (.isub, 1) := by decide +kernel
theorem dC_hitsOutOf_72 : decode cC_hitsOutOf 72 = .ok (.istore_n 2, 1) := by decide +kernel
theorem dC_hitsOutOf_73 : decode cC_hitsOutOf 73 = .ok (.iinc 3 1, 3) := by decide +kernel
theorem dC_hitsOutOf_76 : decode cC_hitsOutOf 76 = .ok (.goto (-72), 3) := by decide +kernel
theorem dC_hitsOutOf_79 : decode cC_hitsOutOf 79 = .ok (.iload_n 2, 1) := by decide +kernel
theorem dC_hitsOutOf_80 : decode cC_hitsOutOf 80 = .ok (.ireturn, 1) := by decide +kernel
theorem dC_visitsOf_0 : decode cC_visitsOf 0 = .ok (.iload_n 1, 1) := by decide +kernel
theorem dC_visitsOf_1 : decode cC_visitsOf 1 = .ok (.ifCond .ne 23, 3) := by decide +kernel
theorem dC_visitsOf_4 : decode cC_visitsOf 4 = .ok (.aload_n 0, 1) := by decide +kernel
theorem dC_visitsOf_5 : decode cC_visitsOf 5 = .ok (.iconst 1, 1) := by decide +kernel
theorem dC_visitsOf_6 : decode cC_visitsOf 6 = .ok (.iload_n 2, 1) := by decide +kernel
theorem dC_visitsOf_7 : decode cC_visitsOf 7 = .ok (.invokevirtual 74, 3) := by decide +kernel
theorem dC_visitsOf_10 : decode cC_visitsOf 10 = .ok (.aload_n 0, 1) := by decide +kernel
theorem dC_visitsOf_11 : decode cC_visitsOf 11 = .ok (.aload_n 0, 1) := by decide +kernel
theorem dC_visitsOf_12 : decode cC_visitsOf 12 = .ok (.getfield 9, 3) := by decide +kernel
theorem dC_visitsOf_15 : decode cC_visitsOf 15 = .ok (.invokevirtual 77, 3) := by decide +kernel
theorem dC_visitsOf_18 : decode cC_visitsOf 18 = .ok (.iload_n 2, 1) := by decide +kernel
theorem dC_visitsOf_19 : decode cC_visitsOf 19 = .ok (.invokevirtual 54, 3) := by decide +kernel
theorem dC_visitsOf_22 : decode cC_visitsOf 22 = .ok (.iadd, 1) := by decide +kernel
theorem dC_visitsOf_23 : decode cC_visitsOf 23 = .ok (.ireturn, 1) := by decide +kernel
theorem dC_visitsOf_24 : decode cC_visitsOf 24 = .ok (.aload_n 0, 1) := by decide +kernel
theorem dC_visitsOf_25 : decode cC_visitsOf 25 = .ok (.iload_n 1, 1) := by decide +kernel
theorem dC_visitsOf_26 : decode cC_visitsOf 26 = .ok (.iload_n 2, 1) := by decide +kernel
theorem dC_visitsOf_27 : decode cC_visitsOf 27 = .ok (.invokevirtual 74, 3) := by decide +kernel
theorem dC_visitsOf_30 : decode cC_visitsOf 30 = .ok (.ireturn, 1) := by decide +kernel
theorem dC_passesInto_0 : decode cC_passesInto 0 = .ok (.iconst 0, 1) := by decide +kernel
theorem dC_passesInto_1 : decode cC_passesInto 1 = .ok (.istore_n 3, 1) := by decide +kernel
theorem dC_passesInto_2 : decode cC_passesInto 2 = .ok (.iconst 0, 1) := by decide +kernel
theorem dC_passesInto_3 : decode cC_passesInto 3 = .ok (.istore 4, 2) := by decide +kernel
theorem dC_passesInto_5 : decode cC_passesInto 5 = .ok (.iload 4, 2) := by decide +kernel
theorem dC_passesInto_7 : decode cC_passesInto 7 = .ok (.aload_n 0, 1) := by decide +kernel
theorem dC_passesInto_8 : decode cC_passesInto 8 = .ok (.getfield 9, 3) := by decide +kernel
theorem dC_passesInto_11 : decode cC_passesInto 11 = .ok (.getfield 38, 3) := by decide +kernel
theorem dC_passesInto_14 : decode cC_passesInto 14 = .ok (.if_icmp .ge 33, 3) := by decide +kernel
theorem dC_passesInto_17 : decode cC_passesInto 17 = .ok (.aload_n 0, 1) := by decide +kernel
theorem dC_passesInto_18 : decode cC_passesInto 18 = .ok (.getfield 9, 3) := by decide +kernel
theorem dC_passesInto_21 : decode cC_passesInto 21 = .ok (.getfield 61, 3) := by decide +kernel
theorem dC_passesInto_24 : decode cC_passesInto 24 = .ok (.iload 4, 2) := by decide +kernel
theorem dC_passesInto_26 : decode cC_passesInto 26 = .ok (.iaload, 1) := by decide +kernel
theorem dC_passesInto_27 : decode cC_passesInto 27 = .ok (.iload_n 1, 1) := by decide +kernel
theorem dC_passesInto_28 : decode cC_passesInto 28 = .ok (.if_icmp .ne 13, 3) := by decide +kernel
theorem dC_passesInto_31 : decode cC_passesInto 31 = .ok (.iload_n 3, 1) := by decide +kernel
theorem dC_passesInto_32 : decode cC_passesInto 32 = .ok (.aload_n 0, 1) := by decide +kernel
theorem dC_passesInto_33 : decode cC_passesInto 33 = .ok (.iload 4, 2) := by decide +kernel
theorem dC_passesInto_35 : decode cC_passesInto 35 = .ok (.iload_n 2, 1) := by decide +kernel
theorem dC_passesInto_36 : decode cC_passesInto 36 = .ok (.invokevirtual 81, 3) := by decide +kernel
theorem dC_passesInto_39 : decode cC_passesInto 39 = .ok (.iadd, 1) := by decide +kernel
theorem dC_passesInto_40 : decode cC_passesInto 40 = .ok (.istore_n 3, 1) := by decide +kernel
theorem dC_passesInto_41 : decode cC_passesInto 41 = .ok (.iinc 4 1, 3) := by decide +kernel
theorem dC_passesInto_44 : decode cC_passesInto 44 = .ok (.goto (-39), 3) := by decide +kernel
theorem dC_passesInto_47 : decode cC_passesInto 47 = .ok (.iload_n 3, 1) := by decide +kernel
theorem dC_passesInto_48 : decode cC_passesInto 48 = .ok (.ireturn, 1) := by decide +kernel
theorem dC_blocksVisited_0 : decode cC_blocksVisited 0 = .ok (.iconst 0, 1) := by decide +kernel
theorem dC_blocksVisited_1 : decode cC_blocksVisited 1 = .ok (.istore_n 2, 1) := by decide +kernel
theorem dC_blocksVisited_2 : decode cC_blocksVisited 2 = .ok (.iconst 0, 1) := by decide +kernel
theorem dC_blocksVisited_3 : decode cC_blocksVisited 3 = .ok (.istore_n 3, 1) := by decide +kernel
theorem dC_blocksVisited_4 : decode cC_blocksVisited 4 = .ok (.iload_n 3, 1) := by decide +kernel
theorem dC_blocksVisited_5 : decode cC_blocksVisited 5 = .ok (.aload_n 0, 1) := by decide +kernel
theorem dC_blocksVisited_6 : decode cC_blocksVisited 6 = .ok (.getfield 9, 3) := by decide +kernel
theorem dC_blocksVisited_9 : decode cC_blocksVisited 9 = .ok (.getfield 68, 3) := by decide +kernel
theorem dC_blocksVisited_12 : decode cC_blocksVisited 12 = .ok (.if_icmp .ge 21, 3) := by decide +kernel
theorem dC_blocksVisited_15 : decode cC_blocksVisited 15 = .ok (.aload_n 0, 1) := by decide +kernel
theorem dC_blocksVisited_16 : decode cC_blocksVisited 16 = .ok (.iload_n 3, 1) := by decide +kernel
theorem dC_blocksVisited_17 : decode cC_blocksVisited 17 = .ok (.iload_n 1, 1) := by decide +kernel
theorem dC_blocksVisited_18 : decode cC_blocksVisited 18 = .ok (.invokevirtual 84, 3) := by decide +kernel
theorem dC_blocksVisited_21 : decode cC_blocksVisited 21 = .ok (.ifCond .le 6, 3) := by decide +kernel
theorem dC_blocksVisited_24 : decode cC_blocksVisited 24 = .ok (.iinc 2 1, 3) := by decide +kernel
theorem dC_blocksVisited_27 : decode cC_blocksVisited 27 = .ok (.iinc 3 1, 3) := by decide +kernel
theorem dC_blocksVisited_30 : decode cC_blocksVisited 30 = .ok (.goto (-26), 3) := by decide +kernel
theorem dC_blocksVisited_33 : decode cC_blocksVisited 33 = .ok (.iload_n 2, 1) := by decide +kernel
theorem dC_blocksVisited_34 : decode cC_blocksVisited 34 = .ok (.ireturn, 1) := by decide +kernel
theorem dC_edgesPassed_0 : decode cC_edgesPassed 0 = .ok (.iconst 0, 1) := by decide +kernel
theorem dC_edgesPassed_1 : decode cC_edgesPassed 1 = .ok (.istore_n 2, 1) := by decide +kernel
theorem dC_edgesPassed_2 : decode cC_edgesPassed 2 = .ok (.iconst 0, 1) := by decide +kernel
theorem dC_edgesPassed_3 : decode cC_edgesPassed 3 = .ok (.istore_n 3, 1) := by decide +kernel
theorem dC_edgesPassed_4 : decode cC_edgesPassed 4 = .ok (.iload_n 3, 1) := by decide +kernel
theorem dC_edgesPassed_5 : decode cC_edgesPassed 5 = .ok (.aload_n 0, 1) := by decide +kernel
theorem dC_edgesPassed_6 : decode cC_edgesPassed 6 = .ok (.getfield 9, 3) := by decide +kernel
theorem dC_edgesPassed_9 : decode cC_edgesPassed 9 = .ok (.getfield 38, 3) := by decide +kernel
theorem dC_edgesPassed_12 : decode cC_edgesPassed 12 = .ok (.if_icmp .ge 21, 3) := by decide +kernel
theorem dC_edgesPassed_15 : decode cC_edgesPassed 15 = .ok (.aload_n 0, 1) := by decide +kernel
theorem dC_edgesPassed_16 : decode cC_edgesPassed 16 = .ok (.iload_n 3, 1) := by decide +kernel
theorem dC_edgesPassed_17 : decode cC_edgesPassed 17 = .ok (.iload_n 1, 1) := by decide +kernel
theorem dC_edgesPassed_18 : decode cC_edgesPassed 18 = .ok (.invokevirtual 81, 3) := by decide +kernel
theorem dC_edgesPassed_21 : decode cC_edgesPassed 21 = .ok (.ifCond .le 6, 3) := by decide +kernel
theorem dC_edgesPassed_24 : decode cC_edgesPassed 24 = .ok (.iinc 2 1, 3) := by decide +kernel
theorem dC_edgesPassed_27 : decode cC_edgesPassed 27 = .ok (.iinc 3 1, 3) := by decide +kernel
theorem dC_edgesPassed_30 : decode cC_edgesPassed 30 = .ok (.goto (-26), 3) := by decide +kernel
theorem dC_edgesPassed_33 : decode cC_edgesPassed 33 = .ok (.iload_n 2, 1) := by decide +kernel
theorem dC_edgesPassed_34 : decode cC_edgesPassed 34 = .ok (.ireturn, 1) := by decide +kernel
theorem dC_waysCompleted_0 : decode cC_waysCompleted 0 = .ok (.iconst 0, 1) := by decide +kernel
theorem dC_waysCompleted_1 : decode cC_waysCompleted 1 = .ok (.istore_n 1, 1) := by decide +kernel
theorem dC_waysCompleted_2 : decode cC_waysCompleted 2 = .ok (.iconst 0, 1) := by decide +kernel
theorem dC_waysCompleted_3 : decode cC_waysCompleted 3 = .ok (.istore_n 2, 1) := by decide +kernel
theorem dC_waysCompleted_4 : decode cC_waysCompleted 4 = .ok (.iload_n 2, 1) := by decide +kernel
theorem dC_waysCompleted_5 : decode cC_waysCompleted 5 = .ok (.sipush 200, 3) := by decide +kernel
theorem dC_waysCompleted_8 : decode cC_waysCompleted 8 = .ok (.if_icmp .ge 21, 3) := by decide +kernel
theorem dC_waysCompleted_11 : decode cC_waysCompleted 11 = .ok (.aload_n 0, 1) := by decide +kernel
theorem dC_waysCompleted_12 : decode cC_waysCompleted 12 = .ok (.getfield 29, 3) := by decide +kernel
theorem dC_waysCompleted_15 : decode cC_waysCompleted 15 = .ok (.iload_n 2, 1) := by decide +kernel
theorem dC_waysCompleted_16 : decode cC_waysCompleted 16 = .ok (.iaload, 1) := by decide +kernel
theorem dC_waysCompleted_17 : decode cC_waysCompleted 17 = .ok (.ifCond .le 6, 3) := by decide +kernel
theorem dC_waysCompleted_20 : decode cC_waysCompleted 20 = .ok (.iinc 1 1, 3) := by decide +kernel
theorem dC_waysCompleted_23 : decode cC_waysCompleted 23 = .ok (.iinc 2 1, 3) := by decide +kernel
theorem dC_waysCompleted_26 : decode cC_waysCompleted 26 = .ok (.goto (-22), 3) := by decide +kernel
theorem dC_waysCompleted_29 : decode cC_waysCompleted 29 = .ok (.iload_n 1, 1) := by decide +kernel
theorem dC_waysCompleted_30 : decode cC_waysCompleted 30 = .ok (.ireturn, 1) := by decide +kernel
end
section
/-! rows that decode, G -/
theorem dG_init_0 : decode cG_init 0 = .ok (.aload_n 0, 1) := by decide +kernel
theorem dG_init_1 : decode cG_init 1 = .ok (.invokespecial 3, 3) := by decide +kernel
theorem dG_init_4 : decode cG_init 4 = .ok (.aload_n 0, 1) := by decide +kernel
theorem dG_init_5 : decode cG_init 5 = .ok (.iload_n 1, 1) := by decide +kernel
theorem dG_init_6 : decode cG_init 6 = .ok (.putfield 9, 3) := by decide +kernel
theorem dG_init_9 : decode cG_init 9 = .ok (.aload_n 0, 1) := by decide +kernel
theorem dG_init_10 : decode cG_init 10 = .ok (.bipush 24, 2) := by decide +kernel
theorem dG_init_12 : decode cG_init 12 = .ok (.newarray .int, 2) := by decide +kernel
theorem dG_init_14 : decode cG_init 14 = .ok (.putfield 15, 3) := by decide +kernel
theorem dG_init_17 : decode cG_init 17 = .ok (.aload_n 0, 1) := by decide +kernel
theorem dG_init_18 : decode cG_init 18 = .ok (.bipush 24, 2) := by decide +kernel
theorem dG_init_20 : decode cG_init 20 = .ok (.newarray .int, 2) := by decide +kernel
theorem dG_init_22 : decode cG_init 22 = .ok (.putfield 19, 3) := by decide +kernel
theorem dG_init_25 : decode cG_init 25 = .ok (.aload_n 0, 1) := by decide +kernel
theorem dG_init_26 : decode cG_init 26 = .ok (.iconst 0, 1) := by decide +kernel
theorem dG_init_27 : decode cG_init 27 = .ok (.putfield 22, 3) := by decide +kernel
theorem dG_init_30 : decode cG_init 30 = .ok (.return_, 1) := by decide +kernel
theorem dG_hasBlock_0 : decode cG_hasBlock 0 = .ok (.iload_n 1, 1) := by decide +kernel
theorem dG_hasBlock_1 : decode cG_hasBlock 1 = .ok (.ifCond .lt 15, 3) := by decide +kernel
theorem dG_hasBlock_4 : decode cG_hasBlock 4 = .ok (.iload_n 1, 1) := by decide +kernel
theorem dG_hasBlock_5 : decode cG_hasBlock 5 = .ok (.aload_n 0, 1) := by decide +kernel
theorem dG_hasBlock_6 : decode cG_hasBlock 6 = .ok (.getfield 9, 3) := by decide +kernel
theorem dG_hasBlock_9 : decode cG_hasBlock 9 = .ok (.if_icmp .ge 7, 3) := by decide +kernel
theorem dG_hasBlock_12 : decode cG_hasBlock 12 = .ok (.iconst 1, 1) := by decide +kernel
theorem dG_hasBlock_13 : decode cG_hasBlock 13 = .ok (.goto 4, 3) := by decide +kernel
theorem dG_hasBlock_16 : decode cG_hasBlock 16 = .ok (.iconst 0, 1) := by decide +kernel
theorem dG_hasBlock_17 : decode cG_hasBlock 17 = .ok (.ireturn, 1) := by decide +kernel
theorem dG_hasEdge_0 : decode cG_hasEdge 0 = .ok (.iload_n 1, 1) := by decide +kernel
theorem dG_hasEdge_1 : decode cG_hasEdge 1 = .ok (.ifCond .lt 15, 3) := by decide +kernel
theorem dG_hasEdge_4 : decode cG_hasEdge 4 = .ok (.iload_n 1, 1) := by decide +kernel
theorem dG_hasEdge_5 : decode cG_hasEdge 5 = .ok (.aload_n 0, 1) := by decide +kernel
theorem dG_hasEdge_6 : decode cG_hasEdge 6 = .ok (.getfield 22, 3) := by decide +kernel
theorem dG_hasEdge_9 : decode cG_hasEdge 9 = .ok (.if_icmp .ge 7, 3) := by decide +kernel
theorem dG_hasEdge_12 : decode cG_hasEdge 12 = .ok (.iconst 1, 1) := by decide +kernel
theorem dG_hasEdge_13 : decode cG_hasEdge 13 = .ok (.goto 4, 3) := by decide +kernel
theorem dG_hasEdge_16 : decode cG_hasEdge 16 = .ok (.iconst 0, 1) := by decide +kernel
theorem dG_hasEdge_17 : decode cG_hasEdge 17 = .ok (.ireturn, 1) := by decide +kernel
theorem dG_add_0 : decode cG_add 0 = .ok (.aload_n 0, 1) := by decide +kernel
theorem dG_add_1 : decode cG_add 1 = .ok (.getfield 15, 3) := by decide +kernel
theorem dG_add_4 : decode cG_add 4 = .ok (.aload_n 0, 1) := by decide +kernel
theorem dG_add_5 : decode cG_add 5 = .ok (.getfield 22, 3) := by decide +kernel
theorem dG_add_8 : decode cG_add 8 = .ok (.iload_n 1, 1) := by decide +kernel
theorem dG_add_9 : decode cG_add 9 = .ok (.iastore, 1) := by decide +kernel
theorem dG_add_10 : decode cG_add 10 = .ok (.aload_n 0, 1) := by decide +kernel
theorem dG_add_11 : decode cG_add 11 = .ok (.getfield 19, 3) := by decide +kernel
theorem dG_add_14 : decode cG_add 14 = .ok (.aload_n 0, 1) := by decide +kernel
theorem dG_add_15 : decode cG_add 15 = .ok (.getfield 22, 3) := by decide +kernel
theorem dG_add_18 : decode cG_add 18 = .ok (.iload_n 2, 1) := by decide +kernel
theorem dG_add_19 : decode cG_add 19 = .ok (.iastore, 1) := by decide +kernel
theorem dG_add_20 : decode cG_add 20 = .ok (.aload_n 0, 1) := by decide +kernel
theorem dG_add_21 : decode cG_add 21 = .ok (.dup, 1) := by decide +kernel
theorem dG_add_22 : decode cG_add 22 = .ok (.getfield 22, 3) := by decide +kernel
theorem dG_add_25 : decode cG_add 25 = .ok (.iconst 1, 1) := by decide +kernel
theorem dG_add_26 : decode cG_add 26 = .ok (.iadd, 1) := by decide +kernel
theorem dG_add_27 : decode cG_add 27 = .ok (.putfield 22, 3) := by decide +kernel
theorem dG_add_30 : decode cG_add 30 = .ok (.aload_n 0, 1) := by decide +kernel
theorem dG_add_31 : decode cG_add 31 = .ok (.getfield 22, 3) := by decide +kernel
theorem dG_add_34 : decode cG_add 34 = .ok (.iconst 1, 1) := by decide +kernel
theorem dG_add_35 : decode cG_add 35 = .ok (.isub, 1) := by decide +kernel
theorem dG_add_36 : decode cG_add 36 = .ok (.ireturn, 1) := by decide +kernel
theorem dG_nextFrom_0 : decode cG_nextFrom 0 = .ok (.iload_n 2, 1) := by decide +kernel
theorem dG_nextFrom_1 : decode cG_nextFrom 1 = .ok (.istore_n 3, 1) := by decide +kernel
theorem dG_nextFrom_2 : decode cG_nextFrom 2 = .ok (.iload_n 3, 1) := by decide +kernel
theorem dG_nextFrom_3 : decode cG_nextFrom 3 = .ok (.aload_n 0, 1) := by decide +kernel
theorem dG_nextFrom_4 : decode cG_nextFrom 4 = .ok (.getfield 22, 3) := by decide +kernel
theorem dG_nextFrom_7 : decode cG_nextFrom 7 = .ok (.if_icmp .ge 21, 3) := by decide +kernel
theorem dG_nextFrom_10 : decode cG_nextFrom 10 = .ok (.aload_n 0, 1) := by decide +kernel
theorem dG_nextFrom_11 : decode cG_nextFrom 11 = .ok (.getfield 15, 3) := by decide +kernel
theorem dG_nextFrom_14 : decode cG_nextFrom 14 = .ok (.iload_n 3, 1) := by decide +kernel
theorem dG_nextFrom_15 : decode cG_nextFrom 15 = .ok (.iaload, 1) := by decide +kernel
theorem dG_nextFrom_16 : decode cG_nextFrom 16 = .ok (.iload_n 1, 1) := by decide +kernel
theorem dG_nextFrom_17 : decode cG_nextFrom 17 = .ok (.if_icmp .ne 5, 3) := by decide +kernel
theorem dG_nextFrom_20 : decode cG_nextFrom 20 = .ok (.iload_n 3, 1) := by decide +kernel
theorem dG_nextFrom_21 : decode cG_nextFrom 21 = .ok (.ireturn, 1) := by decide +kernel
theorem dG_nextFrom_22 : decode cG_nextFrom 22 = .ok (.iinc 3 1, 3) := by decide +kernel
theorem dG_nextFrom_25 : decode cG_nextFrom 25 = .ok (.goto (-23), 3) := by decide +kernel
theorem dG_nextFrom_28 : decode cG_nextFrom 28 = .ok (.iconst (-1), 1) := by decide +kernel
theorem dG_nextFrom_29 : decode cG_nextFrom 29 = .ok (.ireturn, 1) := by decide +kernel
theorem dG_pickFrom_0 : decode cG_pickFrom 0 = .ok (.iconst 0, 1) := by decide +kernel
theorem dG_pickFrom_1 : decode cG_pickFrom 1 = .ok (.istore_n 3, 1) := by decide +kernel
theorem dG_pickFrom_2 : decode cG_pickFrom 2 = .ok (.iconst 0, 1) := by decide +kernel
theorem dG_pickFrom_3 : decode cG_pickFrom 3 = .ok (.istore 4, 2) := by decide +kernel
theorem dG_pickFrom_5 : decode cG_pickFrom 5 = .ok (.iload 4, 2) := by decide +kernel
theorem dG_pickFrom_7 : decode cG_pickFrom 7 = .ok (.aload_n 0, 1) := by decide +kernel
theorem dG_pickFrom_8 : decode cG_pickFrom 8 = .ok (.getfield 22, 3) := by decide +kernel
theorem dG_pickFrom_11 : decode cG_pickFrom 11 = .ok (.if_icmp .ge 23, 3) := by decide +kernel
theorem dG_pickFrom_14 : decode cG_pickFrom 14 = .ok (.aload_n 0, 1) := by decide +kernel
theorem dG_pickFrom_15 : decode cG_pickFrom 15 = .ok (.getfield 15, 3) := by decide +kernel
theorem dG_pickFrom_18 : decode cG_pickFrom 18 = .ok (.iload 4, 2) := by decide +kernel
theorem dG_pickFrom_20 : decode cG_pickFrom 20 = .ok (.iaload, 1) := by decide +kernel
theorem dG_pickFrom_21 : decode cG_pickFrom 21 = .ok (.iload_n 1, 1) := by decide +kernel
theorem dG_pickFrom_22 : decode cG_pickFrom 22 = .ok (.if_icmp .ne 6, 3) := by decide +kernel
theorem dG_pickFrom_25 : decode cG_pickFrom 25 = .ok (.iinc 3 1, 3) := by decide +kernel
theorem dG_pickFrom_28 : decode cG_pickFrom 28 = .ok (.iinc 4 1, 3) := by decide +kernel
theorem dG_pickFrom_31 : decode cG_pickFrom 31 = .ok (.goto (-26), 3) := by decide +kernel
theorem dG_pickFrom_34 : decode cG_pickFrom 34 = .ok (.iload_n 3, 1) := by decide +kernel
theorem dG_pickFrom_35 : decode cG_pickFrom 35 = .ok (.ifCond .ne 5, 3) := by decide +kernel
theorem dG_pickFrom_38 : decode cG_pickFrom 38 = .ok (.iconst (-1), 1) := by decide +kernel
theorem dG_pickFrom_39 : decode cG_pickFrom 39 = .ok (.ireturn, 1) := by decide +kernel
theorem dG_pickFrom_40 : decode cG_pickFrom 40 = .ok (.aload_n 0, 1) := by decide +kernel
theorem dG_pickFrom_41 : decode cG_pickFrom 41 = .ok (.iload_n 1, 1) := by decide +kernel
theorem dG_pickFrom_42 : decode cG_pickFrom 42 = .ok (.iconst 0, 1) := by decide +kernel
theorem dG_pickFrom_43 : decode cG_pickFrom 43 = .ok (.invokevirtual 25, 3) := by decide +kernel
theorem dG_pickFrom_46 : decode cG_pickFrom 46 = .ok (.istore 4, 2) := by decide +kernel
theorem dG_pickFrom_48 : decode cG_pickFrom 48 = .ok (.iload_n 2, 1) := by decide +kernel
theorem dG_pickFrom_49 : decode cG_pickFrom 49 = .ok (.iload_n 3, 1) := by decide +kernel
theorem dG_pickFrom_50 : decode cG_pickFrom 50 = .ok (.irem, 1) := by decide +kernel
theorem dG_pickFrom_51 : decode cG_pickFrom 51 = .ok (.istore 5, 2) := by decide +kernel
theorem dG_pickFrom_53 : decode cG_pickFrom 53 = .ok (.iload 5, 2) := by decide +kernel
theorem dG_pickFrom_55 : decode cG_pickFrom 55 = .ok (.ifCond .le 20, 3) := by decide +kernel
theorem dG_pickFrom_58 : decode cG_pickFrom 58 = .ok (.aload_n 0, 1) := by decide +kernel
theorem dG_pickFrom_59 : decode cG_pickFrom 59 = .ok (.iload_n 1, 1) := by decide +kernel
theorem dG_pickFrom_60 : decode cG_pickFrom 60 = .ok (.iload 4, 2) := by decide +kernel
theorem dG_pickFrom_62 : decode cG_pickFrom 62 = .ok (.iconst 1, 1) := by decide +kernel
theorem dG_pickFrom_63 : decode cG_pickFrom 63 = .ok (.iadd, 1) := by decide +kernel
theorem dG_pickFrom_64 : decode cG_pickFrom 64 = .ok (.invokevirtual 25, 3) := by decide +kernel
theorem dG_pickFrom_67 : decode cG_pickFrom 67 = .ok (.istore 4, 2) := by decide +kernel
theorem dG_pickFrom_69 : decode cG_pickFrom 69 = .ok (.iinc 5 (-1), 3) := by decide +kernel
theorem dG_pickFrom_72 : decode cG_pickFrom 72 = .ok (.goto (-19), 3) := by decide +kernel
theorem dG_pickFrom_75 : decode cG_pickFrom 75 = .ok (.iload 4, 2) := by decide +kernel
theorem dG_pickFrom_77 : decode cG_pickFrom 77 = .ok (.ireturn, 1) := by decide +kernel
theorem dG_allReachExit_0 : decode cG_allReachExit 0 = .ok (.aload_n 0, 1) := by decide +kernel
theorem dG_allReachExit_1 : decode cG_allReachExit 1 = .ok (.iconst 1, 1) := by decide +kernel
theorem dG_allReachExit_2 : decode cG_allReachExit 2 = .ok (.iconst (-1), 1) := by decide +kernel
theorem dG_allReachExit_3 : decode cG_allReachExit 3 = .ok (.invokevirtual 29, 3) := by decide +kernel
theorem dG_allReachExit_6 : decode cG_allReachExit 6 = .ok (.aload_n 0, 1) := by decide +kernel
theorem dG_allReachExit_7 : decode cG_allReachExit 7 = .ok (.invokevirtual 32, 3) := by decide +kernel
theorem dG_allReachExit_10 : decode cG_allReachExit 10 = .ok (.if_icmp .ne 7, 3) := by decide +kernel
theorem dG_allReachExit_13 : decode cG_allReachExit 13 = .ok (.iconst 1, 1) := by decide +kernel
theorem dG_allReachExit_14 : decode cG_allReachExit 14 = .ok (.goto 4, 3) := by decide +kernel
theorem dG_allReachExit_17 : decode cG_allReachExit 17 = .ok (.iconst 0, 1) := by decide +kernel
theorem dG_allReachExit_18 : decode cG_allReachExit 18 = .ok (.ireturn, 1) := by decide +kernel
theorem dG_allBlocks_0 : decode cG_allBlocks 0 = .ok (.aload_n 0, 1) := by decide +kernel
theorem dG_allBlocks_1 : decode cG_allBlocks 1 = .ok (.getfield 9, 3) := by decide +kernel
theorem dG_allBlocks_4 : decode cG_allBlocks 4 = .ok (.invokestatic 36, 3) := by decide +kernel
theorem dG_allBlocks_7 : decode cG_allBlocks 7 = .ok (.iconst 1, 1) := by decide +kernel
theorem dG_allBlocks_8 : decode cG_allBlocks 8 = .ok (.isub, 1) := by decide +kernel
theorem dG_allBlocks_9 : decode cG_allBlocks 9 = .ok (.ireturn, 1) := by decide +kernel
theorem dG_blocksReaching_0 : decode cG_blocksReaching 0 = .ok (.iload_n 1, 1) := by decide +kernel
theorem dG_blocksReaching_1 : decode cG_blocksReaching 1 = .ok (.iload_n 2, 1) := by decide +kernel
theorem dG_blocksReaching_2 : decode cG_blocksReaching 2 = .ok (.if_icmp .ne 7, 3) := by decide +kernel
theorem dG_blocksReaching_5 : decode cG_blocksReaching 5 = .ok (.iconst 0, 1) := by decide +kernel
theorem dG_blocksReaching_6 : decode cG_blocksReaching 6 = .ok (.goto 7, 3) := by decide +kernel
theorem dG_blocksReaching_9 : decode cG_blocksReaching 9 = .ok (.iload_n 1, 1) := by decide +kernel
theorem dG_blocksReaching_10 : decode cG_blocksReaching 10 = .ok (.invokestatic 36, 3) := by decide +kernel
theorem dG_blocksReaching_13 : decode cG_blocksReaching 13 = .ok (.istore_n 3, 1) := by decide +kernel
theorem dG_blocksReaching_14 : decode cG_blocksReaching 14 = .ok (.iconst 1, 1) := by decide +kernel
theorem dG_blocksReaching_15 : decode cG_blocksReaching 15 = .ok (.istore 4, 2) := by decide +kernel
theorem dG_blocksReaching_17 : decode cG_blocksReaching 17 = .ok (.iload 4, 2) := by decide +kernel
theorem dG_blocksReaching_19 : decode cG_blocksReaching 19 = .ok (.aload_n 0, 1) := by decide +kernel
theorem dG_blocksReaching_20 : decode cG_blocksReaching 20 = .ok (.getfield 9, 3) := by decide +kernel
theorem dG_blocksReaching_23 : decode cG_blocksReaching 23 = .ok (.if_icmp .ge 65, 3) := by decide +kernel
theorem dG_blocksReaching_26 : decode cG_blocksReaching 26 = .ok (.iconst 0, 1) := by decide +kernel
theorem dG_blocksReaching_27 : decode cG_blocksReaching 27 = .ok (.istore 5, 2) := by decide +kernel
theorem dG_blocksReaching_29 : decode cG_blocksReaching 29 = .ok (.iload 5, 2) := by decide +kernel
theorem dG_blocksReaching_31 : decode cG_blocksReaching 31 = .ok (.aload_n 0, 1) := by decide +kernel
theorem dG_blocksReaching_32 : decode cG_blocksReaching 32 = .ok (.getfield 22, 3) := by decide +kernel
theorem dG_blocksReaching_35 : decode cG_blocksReaching 35 = .ok (.if_icmp .ge 47, 3) := by decide +kernel
theorem dG_blocksReaching_38 : decode cG_blocksReaching 38 = .ok (.iload_n 3, 1) := by decide +kernel
theorem dG_blocksReaching_39 : decode cG_blocksReaching 39 = .ok (.aload_n 0, 1) := by decide +kernel
theorem dG_blocksReaching_40 : decode cG_blocksReaching 40 = .ok (.getfield 19, 3) := by decide +kernel
theorem dG_blocksReaching_43 : decode cG_blocksReaching 43 = .ok (.iload 5, 2) := by decide +kernel
theorem dG_blocksReaching_45 : decode cG_blocksReaching 45 = .ok (.iaload, 1) := by decide +kernel
theorem dG_blocksReaching_46 : decode cG_blocksReaching 46 = .ok (.invokestatic 40, 3) := by decide +kernel
theorem dG_blocksReaching_49 : decode cG_blocksReaching 49 = .ok (.ifCond .eq 27, 3) := by decide +kernel
theorem dG_blocksReaching_52 : decode cG_blocksReaching 52 = .ok (.aload_n 0, 1) := by decide +kernel
theorem dG_blocksReaching_53 : decode cG_blocksReaching 53 = .ok (.getfield 15, 3) := by decide +kernel
theorem dG_blocksReaching_56 : decode cG_blocksReaching 56 = .ok (.iload 5, 2) := by decide +kernel
theorem dG_blocksReaching_58 : decode cG_blocksReaching 58 = .ok (.iaload, 1) := by decide +kernel
theorem dG_blocksReaching_59 : decode cG_blocksReaching 59 = .ok (.iload_n 2, 1) := by decide +kernel
theorem dG_blocksReaching_60 : decode cG_blocksReaching 60 = .ok (.if_icmp .eq 16, 3) := by decide +kernel
theorem dG_blocksReaching_63 : decode cG_blocksReaching 63 = .ok (.iload_n 3, 1) := by decide +kernel
theorem dG_blocksReaching_64 : decode cG_blocksReaching 64 = .ok (.aload_n 0, 1) := by decide +kernel
theorem dG_blocksReaching_65 : decode cG_blocksReaching 65 = .ok (.getfield 15, 3) := by decide +kernel
theorem dG_blocksReaching_68 : decode cG_blocksReaching 68 = .ok (.iload 5, 2) := by decide +kernel
theorem dG_blocksReaching_70 : decode cG_blocksReaching 70 = .ok (.iaload, 1) := by decide +kernel
theorem dG_blocksReaching_71 : decode cG_blocksReaching 71 = .ok (.invokestatic 36, 3) := by decide +kernel
theorem dG_blocksReaching_74 : decode cG_blocksReaching 74 = .ok (.ior, 1) := by decide +kernel
theorem dG_blocksReaching_75 : decode cG_blocksReaching 75 = .ok (.istore_n 3, 1) := by decide +kernel
theorem dG_blocksReaching_76 : decode cG_blocksReaching 76 = .ok (.iinc 5 1, 3) := by decide +kernel
theorem dG_blocksReaching_79 : decode cG_blocksReaching 79 = .ok (.goto (-50), 3) := by decide +kernel
theorem dG_blocksReaching_82 : decode cG_blocksReaching 82 = .ok (.iinc 4 1, 3) := by decide +kernel
theorem dG_blocksReaching_85 : decode cG_blocksReaching 85 = .ok (.goto (-68), 3) := by decide +kernel
theorem dG_blocksReaching_88 : decode cG_blocksReaching 88 = .ok (.iload_n 3, 1) := by decide +kernel
theorem dG_blocksReaching_89 : decode cG_blocksReaching 89 = .ok (.ireturn, 1) := by decide +kernel
end
section
/-! rows that decode, K -/
theorem dK_init_0 : decode cK_init 0 = .ok (.aload_n 0, 1) := by decide +kernel
theorem dK_init_1 : decode cK_init 1 = .ok (.invokespecial 3, 3) := by decide +kernel
theorem dK_init_4 : decode cK_init 4 = .ok (.aload_n 0, 1) := by decide +kernel
theorem dK_init_5 : decode cK_init 5 = .ok (.aload_n 1, 1) := by decide +kernel
theorem dK_init_6 : decode cK_init 6 = .ok (.putfield 9, 3) := by decide +kernel
theorem dK_init_9 : decode cK_init 9 = .ok (.aload_n 0, 1) := by decide +kernel
theorem dK_init_10 : decode cK_init 10 = .ok (.aload_n 2, 1) := by decide +kernel
theorem dK_init_11 : decode cK_init 11 = .ok (.putfield 15, 3) := by decide +kernel
theorem dK_init_14 : decode cK_init 14 = .ok (.aload_n 0, 1) := by decide +kernel
theorem dK_init_15 : decode cK_init 15 = .ok (.new 19, 3) := by decide +kernel
theorem dK_init_18 : decode cK_init 18 = .ok (.dup, 1) := by decide +kernel
theorem dK_init_19 : decode cK_init 19 = .ok (.aload_n 1, 1) := by decide +kernel
theorem dK_init_20 : decode cK_init 20 = .ok (.invokespecial 21, 3) := by decide +kernel
theorem dK_init_23 : decode cK_init 23 = .ok (.putfield 24, 3) := by decide +kernel
theorem dK_init_26 : decode cK_init 26 = .ok (.aload_n 0, 1) := by decide +kernel
theorem dK_init_27 : decode cK_init 27 = .ok (.bipush 12, 2) := by decide +kernel
theorem dK_init_29 : decode cK_init 29 = .ok (.newarray .int, 2) := by decide +kernel
theorem dK_init_31 : decode cK_init 31 = .ok (.putfield 28, 3) := by decide +kernel
theorem dK_init_34 : decode cK_init 34 = .ok (.aload_n 0, 1) := by decide +kernel
theorem dK_init_35 : decode cK_init 35 = .ok (.bipush 24, 2) := by decide +kernel
theorem dK_init_37 : decode cK_init 37 = .ok (.newarray .int, 2) := by decide +kernel
theorem dK_init_39 : decode cK_init 39 = .ok (.putfield 32, 3) := by decide +kernel
theorem dK_init_42 : decode cK_init 42 = .ok (.aload_n 0, 1) := by decide +kernel
theorem dK_init_43 : decode cK_init 43 = .ok (.bipush 24, 2) := by decide +kernel
theorem dK_init_45 : decode cK_init 45 = .ok (.newarray .int, 2) := by decide +kernel
theorem dK_init_47 : decode cK_init 47 = .ok (.putfield 35, 3) := by decide +kernel
theorem dK_init_50 : decode cK_init 50 = .ok (.aload_n 0, 1) := by decide +kernel
theorem dK_init_51 : decode cK_init 51 = .ok (.bipush 12, 2) := by decide +kernel
theorem dK_init_53 : decode cK_init 53 = .ok (.newarray .int, 2) := by decide +kernel
theorem dK_init_55 : decode cK_init 55 = .ok (.putfield 38, 3) := by decide +kernel
theorem dK_init_58 : decode cK_init 58 = .ok (.aload_n 0, 1) := by decide +kernel
theorem dK_init_59 : decode cK_init 59 = .ok (.bipush 24, 2) := by decide +kernel
theorem dK_init_61 : decode cK_init 61 = .ok (.newarray .int, 2) := by decide +kernel
theorem dK_init_63 : decode cK_init 63 = .ok (.putfield 41, 3) := by decide +kernel
theorem dK_init_66 : decode cK_init 66 = .ok (.aload_n 0, 1) := by decide +kernel
theorem dK_init_67 : decode cK_init 67 = .ok (.iconst 0, 1) := by decide +kernel
theorem dK_init_68 : decode cK_init 68 = .ok (.putfield 44, 3) := by decide +kernel
theorem dK_init_71 : decode cK_init 71 = .ok (.return_, 1) := by decide +kernel
theorem dK_targetOf_0 : decode cK_targetOf 0 = .ok (.aload_n 0, 1) := by decide +kernel
theorem dK_targetOf_1 : decode cK_targetOf 1 = .ok (.getfield 15, 3) := by decide +kernel
theorem dK_targetOf_4 : decode cK_targetOf 4 = .ok (.getfield 48, 3) := by decide +kernel
theorem dK_targetOf_7 : decode cK_targetOf 7 = .ok (.iload_n 1, 1) := by decide +kernel
theorem dK_targetOf_8 : decode cK_targetOf 8 = .ok (.baload, 1) := by decide +kernel
theorem dK_targetOf_9 : decode cK_targetOf 9 = .ok (.ifCond .eq 7, 3) := by decide +kernel
theorem dK_targetOf_12 : decode cK_targetOf 12 = .ok (.iconst 1, 1) := by decide +kernel
theorem dK_targetOf_13 : decode cK_targetOf 13 = .ok (.goto 12, 3) := by decide +kernel
theorem dK_targetOf_16 : decode cK_targetOf 16 = .ok (.aload_n 0, 1) := by decide +kernel
theorem dK_targetOf_17 : decode cK_targetOf 17 = .ok (.getfield 9, 3) := by decide +kernel
theorem dK_targetOf_20 : decode cK_targetOf 20 = .ok (.getfield 54, 3) := by decide +kernel
theorem dK_targetOf_23 : decode cK_targetOf 23 = .ok (.iload_n 1, 1) := by decide +kernel
theorem dK_targetOf_24 : decode cK_targetOf 24 = .ok (.iaload, 1) := by decide +kernel
theorem dK_targetOf_25 : decode cK_targetOf 25 = .ok (.ireturn, 1) := by decide +kernel
theorem dK_incrementOf_0 : decode cK_incrementOf 0 = .ok (.aload_n 0, 1) := by decide +kernel
theorem dK_incrementOf_1 : decode cK_incrementOf 1 = .ok (.getfield 32, 3) := by decide +kernel
theorem dK_incrementOf_4 : decode cK_incrementOf 4 = .ok (.iload_n 1, 1) := by decide +kernel
theorem dK_incrementOf_5 : decode cK_incrementOf 5 = .ok (.iaload, 1) := by decide +kernel
theorem dK_incrementOf_6 : decode cK_incrementOf 6 = .ok (.aload_n 0, 1) := by decide +kernel
theorem dK_incrementOf_7 : decode cK_incrementOf 7 = .ok (.getfield 38, 3) := by decide +kernel
theorem dK_incrementOf_10 : decode cK_incrementOf 10 = .ok (.aload_n 0, 1) := by decide +kernel
theorem dK_incrementOf_11 : decode cK_incrementOf 11 = .ok (.getfield 9, 3) := by decide +kernel
theorem dK_incrementOf_14 : decode cK_incrementOf 14 = .ok (.getfield 59, 3) := by decide +kernel
theorem dK_incrementOf_17 : decode cK_incrementOf 17 = .ok (.iload_n 1, 1) := by decide +kernel
theorem dK_incrementOf_18 : decode cK_incrementOf 18 = .ok (.iaload, 1) := by decide +kernel
theorem dK_incrementOf_19 : decode cK_incrementOf 19 = .ok (.iaload, 1) := by decide +kernel
theorem dK_incrementOf_20 : decode cK_incrementOf 20 = .ok (.iadd, 1) := by decide +kernel
theorem dK_incrementOf_21 : decode cK_incrementOf 21 = .ok (.aload_n 0, 1) := by decide +kernel
theorem dK_incrementOf_22 : decode cK_incrementOf 22 = .ok (.getfield 38, 3) := by decide +kernel
theorem dK_incrementOf_25 : decode cK_incrementOf 25 = .ok (.aload_n 0, 1) := by decide +kernel
theorem dK_incrementOf_26 : decode cK_incrementOf 26 = .ok (.iload_n 1, 1) := by decide +kernel
theorem dK_incrementOf_27 : decode cK_incrementOf 27 = .ok (.invokevirtual 62, 3) := by decide +kernel
theorem dK_incrementOf_30 : decode cK_incrementOf 30 = .ok (.iaload, 1) := by decide +kernel
theorem dK_incrementOf_31 : decode cK_incrementOf 31 = .ok (.isub, 1) := by decide +kernel
theorem dK_incrementOf_32 : decode cK_incrementOf 32 = .ok (.ireturn, 1) := by decide +kernel
theorem dK_startIncrementOf_0 : decode cK_startIncrementOf 0 = .ok (.aload_n 0, 1) := by decide +kernel
theorem dK_startIncrementOf_1 : decode cK_startIncrementOf 1 = .ok (.getfield 35, 3) := by decide +kernel
theorem dK_startIncrementOf_4 : decode cK_startIncrementOf 4 = .ok (.iload_n 1, 1) := by decide +kernel
theorem dK_startIncrementOf_5 : decode cK_startIncrementOf 5 = .ok (.iaload, 1) := by decide +kernel
theorem dK_startIncrementOf_6 : decode cK_startIncrementOf 6 = .ok (.aload_n 0, 1) := by decide +kernel
theorem dK_startIncrementOf_7 : decode cK_startIncrementOf 7 = .ok (.getfield 38, 3) := by decide +kernel
theorem dK_startIncrementOf_10 : decode cK_startIncrementOf 10 = .ok (.iconst 0, 1) := by decide +kernel
theorem dK_startIncrementOf_11 : decode cK_startIncrementOf 11 = .ok (.iaload, 1) := by decide +kernel
theorem dK_startIncrementOf_12 : decode cK_startIncrementOf 12 = .ok (.iadd, 1) := by decide +kernel
theorem dK_startIncrementOf_13 : decode cK_startIncrementOf 13 = .ok (.aload_n 0, 1) := by decide +kernel
theorem dK_startIncrementOf_14 : decode cK_startIncrementOf 14 = .ok (.getfield 38, 3) := by decide +kernel
theorem dK_startIncrementOf_17 : decode cK_startIncrementOf 17 = .ok (.aload_n 0, 1) := by decide +kernel
theorem dK_startIncrementOf_18 : decode cK_startIncrementOf 18 = .ok (.getfield 9, 3) := by decide +kernel
theorem dK_startIncrementOf_21 : decode cK_startIncrementOf 21 = .ok (.getfield 54, 3) := by decide +kernel
theorem dK_startIncrementOf_24 : decode cK_startIncrementOf 24 = .ok (.iload_n 1, 1) := by decide +kernel
theorem dK_startIncrementOf_25 : decode cK_startIncrementOf 25 = .ok (.iaload, 1) := by decide +kernel
theorem dK_startIncrementOf_26 : decode cK_startIncrementOf 26 = .ok (.iaload, 1) := by decide +kernel
theorem dK_startIncrementOf_27 : decode cK_startIncrementOf 27 = .ok (.isub, 1) := by decide +kernel
theorem dK_startIncrementOf_28 : decode cK_startIncrementOf 28 = .ok (.ireturn, 1) := by decide +kernel
theorem dK_number_0 : decode cK_number 0 = .ok (.aload_n 0, 1) := by decide +kernel
theorem dK_number_1 : decode cK_number 1 = .ok (.getfield 28, 3) := by decide +kernel
theorem dK_number_4 : decode cK_number 4 = .ok (.iconst 1, 1) := by decide +kernel
theorem dK_number_5 : decode cK_number 5 = .ok (.iconst 1, 1) := by decide +kernel
theorem dK_number_6 : decode cK_number 6 = .ok (.iastore, 1) := by decide +kernel
theorem dK_number_7 : decode cK_number 7 = .ok (.iconst 0, 1) := by decide +kernel
theorem dK_number_8 : decode cK_number 8 = .ok (.istore_n 1, 1) := by decide +kernel
theorem dK_number_9 : decode cK_number 9 = .ok (.iload_n 1, 1) := by decide +kernel
theorem dK_number_10 : decode cK_number 10 = .ok (.aload_n 0, 1) := by decide +kernel
theorem dK_number_11 : decode cK_number 11 = .ok (.getfield 9, 3) := by decide +kernel
theorem dK_number_14 : decode cK_number 14 = .ok (.getfield 66, 3) := by decide +kernel
theorem dK_number_17 : decode cK_number 17 = .ok (.if_icmp .ge 35, 3) := by decide +kernel
theorem dK_number_20 : decode cK_number 20 = .ok (.aload_n 0, 1) := by decide +kernel
theorem dK_number_21 : decode cK_number 21 = .ok (.getfield 15, 3) := by decide +kernel
theorem dK_number_24 : decode cK_number 24 = .ok (.getfield 69, 3) := by decide +kernel
theorem dK_number_27 : decode cK_number 27 = .ok (.iload_n 1, 1) := by decide +kernel
theorem dK_number_28 : decode cK_number 28 = .ok (.iaload, 1) := by decide +kernel
theorem dK_number_29 : decode cK_number 29 = .ok (.istore_n 2, 1) := by decide +kernel
theorem dK_number_30 : decode cK_number 30 = .ok (.iload_n 2, 1) := by decide +kernel
theorem dK_number_31 : decode cK_number 31 = .ok (.iconst 1, 1) := by decide +kernel
theorem dK_number_32 : decode cK_number 32 = .ok (.if_icmp .eq 14, 3) := by decide +kernel
theorem dK_number_35 : decode cK_number 35 = .ok (.aload_n 0, 1) := by decide +kernel
theorem dK_number_36 : decode cK_number 36 = .ok (.getfield 28, 3) := by decide +kernel
theorem dK_number_39 : decode cK_number 39 = .ok (.iload_n 2, 1) := by decide +kernel
theorem dK_number_40 : decode cK_number 40 = .ok (.aload_n 0, 1) := by decide +kernel
theorem dK_number_41 : decode cK_number 41 = .ok (.iload_n 2, 1) := by decide +kernel
theorem dK_number_42 : decode cK_number 42 = .ok (.invokevirtual 72, 3) := by decide +kernel
theorem dK_number_45 : decode cK_number 45 = .ok (.iastore, 1) := by decide +kernel
theorem dK_number_46 : decode cK_number 46 = .ok (.iinc 1 1, 3) := by decide +kernel
theorem dK_number_49 : decode cK_number 49 = .ok (.goto (-40), 3) := by decide +kernel
theorem dK_number_52 : decode cK_number 52 = .ok (.aload_n 0, 1) := by decide +kernel
theorem dK_number_53 : decode cK_number 53 = .ok (.aload_n 0, 1) := by decide +kernel
theorem dK_number_54 : decode cK_number 54 = .ok (.aload_n 0, 1) := by decide +kernel
theorem dK_number_55 : decode cK_number 55 = .ok (.getfield 28, 3) := by decide +kernel
theorem dK_number_58 : decode cK_number 58 = .ok (.iconst 0, 1) := by decide +kernel
theorem dK_number_59 : decode cK_number 59 = .ok (.iaload, 1) := by decide +kernel
theorem dK_number_60 : decode cK_number 60 = .ok (.invokevirtual 75, 3) := by decide +kernel
theorem dK_number_63 : decode cK_number 63 = .ok (.putfield 44, 3) := by decide +kernel
theorem dK_number_66 : decode cK_number 66 = .ok (.return_, 1) := by decide +kernel
theorem dK_numberFrom_0 : decode cK_numberFrom 0 = .ok (.iconst 0, 1) := by decide +kernel
theorem dK_numberFrom_1 : decode cK_numberFrom 1 = .ok (.istore_n 2, 1) := by decide +kernel
theorem dK_numberFrom_2 : decode cK_numberFrom 2 = .ok (.iconst 0, 1) := by decide +kernel
theorem dK_numberFrom_3 : decode cK_numberFrom 3 = .ok (.istore_n 3, 1) := by decide +kernel
theorem dK_numberFrom_4 : decode cK_numberFrom 4 = .ok (.iload_n 3, 1) := by decide +kernel
theorem dK_numberFrom_5 : decode cK_numberFrom 5 = .ok (.aload_n 0, 1) := by decide +kernel
theorem dK_numberFrom_6 : decode cK_numberFrom 6 = .ok (.getfield 9, 3) := by decide +kernel
theorem dK_numberFrom_9 : decode cK_numberFrom 9 = .ok (.getfield 78, 3) := by decide +kernel
theorem dK_numberFrom_12 : decode cK_numberFrom 12 = .ok (.if_icmp .ge 42, 3) := by decide +kernel
theorem dK_numberFrom_15 : decode cK_numberFrom 15 = .ok (.aload_n 0, 1) := by decide +kernel
theorem dK_numberFrom_16 : decode cK_numberFrom 16 = .ok (.getfield 9, 3) := by decide +kernel
theorem dK_numberFrom_19 : decode cK_numberFrom 19 = .ok (.getfield 59, 3) := by decide +kernel
theorem dK_numberFrom_22 : decode cK_numberFrom 22 = .ok (.iload_n 3, 1) := by decide +kernel
theorem dK_numberFrom_23 : decode cK_numberFrom 23 = .ok (.iaload, 1) := by decide +kernel
theorem dK_numberFrom_24 : decode cK_numberFrom 24 = .ok (.iload_n 1, 1) := by decide +kernel
theorem dK_numberFrom_25 : decode cK_numberFrom 25 = .ok (.if_icmp .ne 23, 3) := by decide +kernel
theorem dK_numberFrom_28 : decode cK_numberFrom 28 = .ok (.aload_n 0, 1) := by decide +kernel
theorem dK_numberFrom_29 : decode cK_numberFrom 29 = .ok (.getfield 32, 3) := by decide +kernel
theorem dK_numberFrom_32 : decode cK_numberFrom 32 = .ok (.iload_n 3, 1) := by decide +kernel
theorem dK_numberFrom_33 : decode cK_numberFrom 33 = .ok (.iload_n 2, 1) := by decide +kernel
theorem dK_numberFrom_34 : decode cK_numberFrom 34 = .ok (.iastore, 1) := by decide +kernel
theorem dK_numberFrom_35 : decode cK_numberFrom 35 = .ok (.iload_n 2, 1) := by decide +kernel
theorem dK_numberFrom_36 : decode cK_numberFrom 36 = .ok (.aload_n 0, 1) := by decide +kernel
theorem dK_numberFrom_37 : decode cK_numberFrom 37 = .ok (.getfield 28, 3) := by decide +kernel
theorem dK_numberFrom_40 : decode cK_numberFrom 40 = .ok (.aload_n 0, 1) := by decide +kernel
theorem dK_numberFrom_41 : decode cK_numberFrom 41 = .ok (.iload_n 3, 1) := by decide +kernel
theorem dK_numberFrom_42 : decode cK_numberFrom 42 = .ok (.invokevirtual 62, 3) := by decide +kernel
theorem dK_numberFrom_45 : decode cK_numberFrom 45 = .ok (.iaload, 1) := by decide +kernel
theorem dK_numberFrom_46 : decode cK_numberFrom 46 = .ok (.iadd, 1) := by decide +kernel
theorem dK_numberFrom_47 : decode cK_numberFrom 47 = .ok (.istore_n 2, 1) := by decide +kernel
theorem dK_numberFrom_48 : decode cK_numberFrom 48 = .ok (.iinc 3 1, 3) := by decide +kernel
theorem dK_numberFrom_51 : decode cK_numberFrom 51 = .ok (.goto (-47), 3) := by decide +kernel
theorem dK_numberFrom_54 : decode cK_numberFrom 54 = .ok (.iload_n 2, 1) := by decide +kernel
theorem dK_numberFrom_55 : decode cK_numberFrom 55 = .ok (.ireturn, 1) := by decide +kernel
theorem dK_numberStarts_0 : decode cK_numberStarts 0 = .ok (.iload_n 1, 1) := by decide +kernel
theorem dK_numberStarts_1 : decode cK_numberStarts 1 = .ok (.istore_n 2, 1) := by decide +kernel
theorem dK_numberStarts_2 : decode cK_numberStarts 2 = .ok (.iconst 0, 1) := by decide +kernel
theorem dK_numberStarts_3 : decode cK_numberStarts 3 = .ok (.istore_n 3, 1) := by decide +kernel
theorem dK_numberStarts_4 : decode cK_numberStarts 4 = .ok (.iload_n 3, 1) := by decide +kernel
theorem dK_numberStarts_5 : decode cK_numberStarts 5 = .ok (.aload_n 0, 1) := by decide +kernel
theorem dK_numberStarts_6 : decode cK_numberStarts 6 = .ok (.getfield 9, 3) := by decide +kernel
theorem dK_numberStarts_9 : decode cK_numberStarts 9 = .ok (.getfield 78, 3) := by decide +kernel
theorem dK_numberStarts_12 : decode cK_numberStarts 12 = .ok (.if_icmp .ge 45, 3) := by decide +kernel
theorem dK_numberStarts_15 : decode cK_numberStarts 15 = .ok (.aload_n 0, 1) := by decide +kernel
theorem dK_numberStarts_16 : decode cK_numberStarts 16 = .ok (.getfield 15, 3) := by decide +kernel
theorem dK_numberStarts_19 : decode cK_numberStarts 19 = .ok (.getfield 48, 3) := by decide +kernel
theorem dK_numberStarts_22 : decode cK_numberStarts 22 = .ok (.iload_n 3, 1) := by decide +kernel
theorem dK_numberStarts_23 : decode cK_numberStarts 23 = .ok (.baload, 1) := by decide +kernel
theorem dK_numberStarts_24 : decode cK_numberStarts 24 = .ok (.ifCond .eq 27, 3) := by decide +kernel
theorem dK_numberStarts_27 : decode cK_numberStarts 27 = .ok (.aload_n 0, 1) := by decide +kernel
theorem dK_numberStarts_28 : decode cK_numberStarts 28 = .ok (.getfield 35, 3) := by decide +kernel
theorem dK_numberStarts_31 : decode cK_numberStarts 31 = .ok (.iload_n 3, 1) := by decide +kernel
theorem dK_numberStarts_32 : decode cK_numberStarts 32 = .ok (.iload_n 2, 1) := by decide +kernel
theorem dK_numberStarts_33 : decode cK_numberStarts 33 = .ok (.iastore, 1) := by decide +kernel
theorem dK_numberStarts_34 : decode cK_numberStarts 34 = .ok (.iload_n 2, 1) := by decide +kernel
theorem dK_numberStarts_35 : decode cK_numberStarts 35 = .ok (.aload_n 0, 1) := by decide +kernel
theorem dK_numberStarts_36 : decode cK_numberStarts 36 = .ok (.getfield 28, 3) := by decide +kernel
theorem dK_numberStarts_39 : decode cK_numberStarts 39 = .ok (.aload_n 0, 1) := by decide +kernel
theorem dK_numberStarts_40 : decode cK_numberStarts 40 = .ok (.getfield 9, 3) := by decide +kernel
theorem dK_numberStarts_43 : decode cK_numberStarts 43 = .ok (.getfield 54, 3) := by decide +kernel
theorem dK_numberStarts_46 : decode cK_numberStarts 46 = .ok (.iload_n 3, 1) := by decide +kernel
theorem dK_numberStarts_47 : decode cK_numberStarts 47 = .ok (.iaload, 1) := by decide +kernel
theorem dK_numberStarts_48 : decode cK_numberStarts 48 = .ok (.iaload, 1) := by decide +kernel
theorem dK_numberStarts_49 : decode cK_numberStarts 49 = .ok (.iadd, 1) := by decide +kernel
theorem dK_numberStarts_50 : decode cK_numberStarts 50 = .ok (.istore_n 2, 1) := by decide +kernel
theorem dK_numberStarts_51 : decode cK_numberStarts 51 = .ok (.iinc 3 1, 3) := by decide +kernel
theorem dK_numberStarts_54 : decode cK_numberStarts 54 = .ok (.goto (-50), 3) := by decide +kernel
theorem dK_numberStarts_57 : decode cK_numberStarts 57 = .ok (.iload_n 2, 1) := by decide +kernel
theorem dK_numberStarts_58 : decode cK_numberStarts 58 = .ok (.ireturn, 1) := by decide +kernel
theorem dK_spread_0 : decode cK_spread 0 = .ok (.aload_n 0, 1) := by decide +kernel
theorem dK_spread_1 : decode cK_spread 1 = .ok (.getfield 24, 3) := by decide +kernel
theorem dK_spread_4 : decode cK_spread 4 = .ok (.aload_n 0, 1) := by decide +kernel
theorem dK_spread_5 : decode cK_spread 5 = .ok (.getfield 41, 3) := by decide +kernel
theorem dK_spread_8 : decode cK_spread 8 = .ok (.aload_n 0, 1) := by decide +kernel
theorem dK_spread_9 : decode cK_spread 9 = .ok (.aload_n 1, 1) := by decide +kernel
theorem dK_spread_10 : decode cK_spread 10 = .ok (.invokevirtual 81, 3) := by decide +kernel
theorem dK_spread_13 : decode cK_spread 13 = .ok (.invokevirtual 85, 3) := by decide +kernel
theorem dK_spread_16 : decode cK_spread 16 = .ok (.iconst 0, 1) := by decide +kernel
theorem dK_spread_17 : decode cK_spread 17 = .ok (.invokestatic 89, 3) := by decide +kernel
theorem dK_spread_20 : decode cK_spread 20 = .ok (.iconst 1, 1) := by decide +kernel
theorem dK_spread_21 : decode cK_spread 21 = .ok (.invokestatic 89, 3) := by decide +kernel
theorem dK_spread_24 : decode cK_spread 24 = .ok (.ior, 1) := by decide +kernel
theorem dK_spread_25 : decode cK_spread 25 = .ok (.istore_n 2, 1) := by decide +kernel
theorem dK_spread_26 : decode cK_spread 26 = .ok (.iconst 1, 1) := by decide +kernel
theorem dK_spread_27 : decode cK_spread 27 = .ok (.istore_n 3, 1) := by decide +kernel
theorem dK_spread_28 : decode cK_spread 28 = .ok (.iload_n 3, 1) := by decide +kernel
theorem dK_spread_29 : decode cK_spread 29 = .ok (.aload_n 0, 1) := by decide +kernel
theorem dK_spread_30 : decode cK_spread 30 = .ok (.getfield 9, 3) := by decide +kernel
theorem dK_spread_33 : decode cK_spread 33 = .ok (.getfield 66, 3) := by decide +kernel
theorem dK_spread_36 : decode cK_spread 36 = .ok (.if_icmp .ge 51, 3) := by decide +kernel
theorem dK_spread_39 : decode cK_spread 39 = .ok (.iconst 0, 1) := by decide +kernel
theorem dK_spread_40 : decode cK_spread 40 = .ok (.istore 4, 2) := by decide +kernel
theorem dK_spread_42 : decode cK_spread 42 = .ok (.iload 4, 2) := by decide +kernel
theorem dK_spread_44 : decode cK_spread 44 = .ok (.aload_n 0, 1) := by decide +kernel
theorem dK_spread_45 : decode cK_spread 45 = .ok (.getfield 9, 3) := by decide +kernel
theorem dK_spread_48 : decode cK_spread 48 = .ok (.getfield 78, 3) := by decide +kernel
theorem dK_spread_51 : decode cK_spread 51 = .ok (.if_icmp .ge 30, 3) := by decide +kernel
theorem dK_spread_54 : decode cK_spread 54 = .ok (.aload_n 0, 1) := by decide +kernel
theorem dK_spread_55 : decode cK_spread 55 = .ok (.getfield 24, 3) := by decide +kernel
theorem dK_spread_58 : decode cK_spread 58 = .ok (.getfield 92, 3) := by decide +kernel
theorem dK_spread_61 : decode cK_spread 61 = .ok (.iload 4, 2) := by decide +kernel
theorem dK_spread_63 : decode cK_spread 63 = .ok (.baload, 1) := by decide +kernel
theorem dK_spread_64 : decode cK_spread 64 = .ok (.ifCond .eq 11, 3) := by decide +kernel
theorem dK_spread_67 : decode cK_spread 67 = .ok (.aload_n 0, 1) := by decide +kernel
theorem dK_spread_68 : decode cK_spread 68 = .ok (.iload 4, 2) := by decide +kernel
theorem dK_spread_70 : decode cK_spread 70 = .ok (.iload_n 2, 1) := by decide +kernel
theorem dK_spread_71 : decode cK_spread 71 = .ok (.invokevirtual 95, 3) := by decide +kernel
theorem dK_spread_74 : decode cK_spread 74 = .ok (.istore_n 2, 1) := by decide +kernel
theorem dK_spread_75 : decode cK_spread 75 = .ok (.iinc 4 1, 3) := by decide +kernel
theorem dK_spread_78 : decode cK_spread 78 = .ok (.goto (-36), 3) := by decide +kernel
theorem dK_spread_81 : decode cK_spread 81 = .ok (.iinc 3 1, 3) := by decide +kernel
theorem dK_spread_84 : decode cK_spread 84 = .ok (.goto (-56), 3) := by decide +kernel
theorem dK_spread_87 : decode cK_spread 87 = .ok (.return_, 1) := by decide +kernel
theorem dK_leaveOutBack_0 : decode cK_leaveOutBack 0 = .ok (.iconst 0, 1) := by decide +kernel
theorem dK_leaveOutBack_1 : decode cK_leaveOutBack 1 = .ok (.istore_n 2, 1) := by decide +kernel
theorem dK_leaveOutBack_2 : decode cK_leaveOutBack 2 = .ok (.iconst 0, 1) := by decide +kernel
theorem dK_leaveOutBack_3 : decode cK_leaveOutBack 3 = .ok (.istore_n 3, 1) := by decide +kernel
theorem dK_leaveOutBack_4 : decode cK_leaveOutBack 4 = .ok (.iload_n 3, 1) := by decide +kernel
theorem dK_leaveOutBack_5 : decode cK_leaveOutBack 5 = .ok (.aload_n 0, 1) := by decide +kernel
theorem dK_leaveOutBack_6 : decode cK_leaveOutBack 6 = .ok (.getfield 9, 3) := by decide +kernel
theorem dK_leaveOutBack_9 : decode cK_leaveOutBack 9 = .ok (.getfield 78, 3) := by decide +kernel
theorem dK_leaveOutBack_12 : decode cK_leaveOutBack 12 = .ok (.if_icmp .ge 35, 3) := by decide +kernel
theorem dK_leaveOutBack_15 : decode cK_leaveOutBack 15 = .ok (.aload_n 0, 1) := by decide +kernel
theorem dK_leaveOutBack_16 : decode cK_leaveOutBack 16 = .ok (.getfield 15, 3) := by decide +kernel
theorem dK_leaveOutBack_19 : decode cK_leaveOutBack 19 = .ok (.getfield 48, 3) := by decide +kernel
theorem dK_leaveOutBack_22 : decode cK_leaveOutBack 22 = .ok (.aload_n 1, 1) := by decide +kernel
theorem dK_leaveOutBack_23 : decode cK_leaveOutBack 23 = .ok (.iload_n 3, 1) := by decide +kernel
theorem dK_leaveOutBack_24 : decode cK_leaveOutBack 24 = .ok (.iaload, 1) := by decide +kernel
theorem dK_leaveOutBack_25 : decode cK_leaveOutBack 25 = .ok (.baload, 1) := by decide +kernel
theorem dK_leaveOutBack_26 : decode cK_leaveOutBack 26 = .ok (.ifCond .ne 15, 3) := by decide +kernel
theorem dK_leaveOutBack_29 : decode cK_leaveOutBack 29 = .ok (.aload_n 0, 1) := by decide +kernel
theorem dK_leaveOutBack_30 : decode cK_leaveOutBack 30 = .ok (.getfield 41, 3) := by decide +kernel
theorem dK_leaveOutBack_33 : decode cK_leaveOutBack 33 = .ok (.iload_n 2, 1) := by decide +kernel
theorem dK_leaveOutBack_34 : decode cK_leaveOutBack 34 = .ok (.aload_n 1, 1) := by decide +kernel
theorem dK_leaveOutBack_35 : decode cK_leaveOutBack 35 = .ok (.iload_n 3, 1) := by decide +kernel
theorem dK_leaveOutBack_36 : decode cK_leaveOutBack 36 = .ok (.iaload, 1) := by decide +kernel
theorem dK_leaveOutBack_37 : decode cK_leaveOutBack 37 = .ok (.iastore, 1) := by decide +kernel
theorem dK_leaveOutBack_38 : decode cK_leaveOutBack 38 = .ok (.iinc 2 1, 3) := by decide +kernel
theorem dK_leaveOutBack_41 : decode cK_leaveOutBack 41 = .ok (.iinc 3 1, 3) := by decide +kernel
theorem dK_leaveOutBack_44 : decode cK_leaveOutBack 44 = .ok (.goto (-40), 3) := by decide +kernel
theorem dK_leaveOutBack_47 : decode cK_leaveOutBack 47 = .ok (.iload_n 2, 1) := by decide +kernel
theorem dK_leaveOutBack_48 : decode cK_leaveOutBack 48 = .ok (.ireturn, 1) := by decide +kernel
theorem dK_spreadOver_0 : decode cK_spreadOver 0 = .ok (.aload_n 0, 1) := by decide +kernel
theorem dK_spreadOver_1 : decode cK_spreadOver 1 = .ok (.getfield 9, 3) := by decide +kernel
theorem dK_spreadOver_4 : decode cK_spreadOver 4 = .ok (.getfield 59, 3) := by decide +kernel
theorem dK_spreadOver_7 : decode cK_spreadOver 7 = .ok (.iload_n 1, 1) := by decide +kernel
theorem dK_spreadOver_8 : decode cK_spreadOver 8 = .ok (.iaload, 1) := by decide +kernel
theorem dK_spreadOver_9 : decode cK_spreadOver 9 = .ok (.istore_n 3, 1) := by decide +kernel
theorem dK_spreadOver_10 : decode cK_spreadOver 10 = .ok (.aload_n 0, 1) := by decide +kernel
theorem dK_spreadOver_11 : decode cK_spreadOver 11 = .ok (.getfield 9, 3) := by decide +kernel
theorem dK_spreadOver_14 : decode cK_spreadOver 14 = .ok (.getfield 54, 3) := by decide +kernel
theorem dK_spreadOver_17 : decode cK_spreadOver 17 = .ok (.iload_n 1, 1) := by decide +kernel
theorem dK_spreadOver_18 : decode cK_spreadOver 18 = .ok (.iaload, 1) := by decide +kernel
theorem dK_spreadOver_19 : decode cK_spreadOver 19 = .ok (.istore 4, 2) := by decide +kernel
theorem dK_spreadOver_21 : decode cK_spreadOver 21 = .ok (.iload_n 2, 1) := by decide +kernel
theorem dK_spreadOver_22 : decode cK_spreadOver 22 = .ok (.iload_n 3, 1) := by decide +kernel
theorem dK_spreadOver_23 : decode cK_spreadOver 23 = .ok (.invokestatic 99, 3) := by decide +kernel
theorem dK_spreadOver_26 : decode cK_spreadOver 26 = .ok (.ifCond .eq 35, 3) := by decide +kernel
theorem dK_spreadOver_29 : decode cK_spreadOver 29 = .ok (.iload_n 2, 1) := by decide +kernel
theorem dK_spreadOver_30 : decode cK_spreadOver 30 = .ok (.iload 4, 2) := by decide +kernel
theorem dK_spreadOver_32 : decode cK_spreadOver 32 = .ok (.invokestatic 99, 3) := by decide +kernel
theorem dK_spreadOver_35 : decode cK_spreadOver 35 = .ok (.ifCond .ne 26, 3) := by decide +kernel
theorem dK_spreadOver_38 : decode cK_spreadOver 38 = .ok (.aload_n 0, 1) := by decide +kernel
theorem dK_spreadOver_39 : decode cK_spreadOver 39 = .ok (.getfield 38, 3) := by decide +kernel
theorem dK_spreadOver_42 : decode cK_spreadOver 42 = .ok (.iload 4, 2) := by decide +kernel
theorem dK_spreadOver_44 : decode cK_spreadOver 44 = .ok (.aload_n 0, 1) := by decide +kernel
theorem dK_spreadOver_45 : decode cK_spreadOver 45 = .ok (.getfield 38, 3) := by decide +kernel
theorem dK_spreadOver_48 : decode cK_spreadOver 48 = .ok (.iload_n 3, 1) := by decide +kernel
theorem dK_spreadOver_49 : decode cK_spreadOver 49 = .ok (.iaload, 1) := by decide +kernel
theorem dK_spreadOver_50 : decode cK_spreadOver 50 = .ok (.aload_n 0, 1) := by decide +kernel
theorem dK_spreadOver_51 : decode cK_spreadOver 51 = .ok (.getfield 32, 3) := by decide +kernel
theorem dK_spreadOver_54 : decode cK_spreadOver 54 = .ok (.iload_n 1, 1) := by decide +kernel
theorem dK_spreadOver_55 : decode cK_spreadOver 55 = .ok (.iaload, 1) := by decide +kernel
theorem dK_spreadOver_56 : decode cK_spreadOver 56 = .ok (.iadd, 1) := by decide +kernel
theorem dK_spreadOver_57 : decode cK_spreadOver 57 = .ok (.iastore, 1) := by decide +kernel
theorem dK_spreadOver_58 : decode cK_spreadOver 58 = .ok (.goto 45, 3) := by decide +kernel
theorem dK_spreadOver_61 : decode cK_spreadOver 61 = .ok (.iload_n 2, 1) := by decide +kernel
theorem dK_spreadOver_62 : decode cK_spreadOver 62 = .ok (.iload 4, 2) := by decide +kernel
theorem dK_spreadOver_64 : decode cK_spreadOver 64 = .ok (.invokestatic 99, 3) := by decide +kernel
theorem dK_spreadOver_67 : decode cK_spreadOver 67 = .ok (.ifCond .eq 34, 3) := by decide +kernel
theorem dK_spreadOver_70 : decode cK_spreadOver 70 = .ok (.iload_n 2, 1) := by decide +kernel
theorem dK_spreadOver_71 : decode cK_spreadOver 71 = .ok (.iload_n 3, 1) := by decide +kernel
theorem dK_spreadOver_72 : decode cK_spreadOver 72 = .ok (.invokestatic 99, 3) := by decide +kernel
theorem dK_spreadOver_75 : decode cK_spreadOver 75 = .ok (.ifCond .ne 26, 3) := by decide +kernel
theorem dK_spreadOver_78 : decode cK_spreadOver 78 = .ok (.aload_n 0, 1) := by decide +kernel
theorem dK_spreadOver_79 : decode cK_spreadOver 79 = .ok (.getfield 38, 3) := by decide +kernel
theorem dK_spreadOver_82 : decode cK_spreadOver 82 = .ok (.iload_n 3, 1) := by decide +kernel
theorem dK_spreadOver_83 : decode cK_spreadOver 83 = .ok (.aload_n 0, 1) := by decide +kernel
theorem dK_spreadOver_84 : decode cK_spreadOver 84 = .ok (.getfield 38, 3) := by decide +kernel
theorem dK_spreadOver_87 : decode cK_spreadOver 87 = .ok (.iload 4, 2) := by decide +kernel
theorem dK_spreadOver_89 : decode cK_spreadOver 89 = .ok (.iaload, 1) := by decide +kernel
theorem dK_spreadOver_90 : decode cK_spreadOver 90 = .ok (.aload_n 0, 1) := by decide +kernel
theorem dK_spreadOver_91 : decode cK_spreadOver 91 = .ok (.getfield 32, 3) := by decide +kernel
theorem dK_spreadOver_94 : decode cK_spreadOver 94 = .ok (.iload_n 1, 1) := by decide +kernel
theorem dK_spreadOver_95 : decode cK_spreadOver 95 = .ok (.iaload, 1) := by decide +kernel
theorem dK_spreadOver_96 : decode cK_spreadOver 96 = .ok (.isub, 1) := by decide +kernel
theorem dK_spreadOver_97 : decode cK_spreadOver 97 = .ok (.iastore, 1) := by decide +kernel
theorem dK_spreadOver_98 : decode cK_spreadOver 98 = .ok (.goto 5, 3) := by decide +kernel
theorem dK_spreadOver_101 : decode cK_spreadOver 101 = .ok (.iload_n 2, 1) := by decide +kernel
theorem dK_spreadOver_102 : decode cK_spreadOver 102 = .ok (.ireturn, 1) := by decide +kernel
theorem dK_spreadOver_103 : decode cK_spreadOver 103 = .ok (.iload_n 2, 1) := by decide +kernel
theorem dK_spreadOver_104 : decode cK_spreadOver 104 = .ok (.iload_n 3, 1) := by decide +kernel
theorem dK_spreadOver_105 : decode cK_spreadOver 105 = .ok (.invokestatic 89, 3) := by decide +kernel
theorem dK_spreadOver_108 : decode cK_spreadOver 108 = .ok (.ior, 1) := by decide +kernel
theorem dK_spreadOver_109 : decode cK_spreadOver 109 = .ok (.iload 4, 2) := by decide +kernel
theorem dK_spreadOver_111 : decode cK_spreadOver 111 = .ok (.invokestatic 89, 3) := by decide +kernel
theorem dK_spreadOver_114 : decode cK_spreadOver 114 = .ok (.ior, 1) := by decide +kernel
theorem dK_spreadOver_115 : decode cK_spreadOver 115 = .ok (.ireturn, 1) := by decide +kernel
theorem dK_startOfWay_0 : decode cK_startOfWay 0 = .ok (.iconst (-1), 1) := by decide +kernel
theorem dK_startOfWay_1 : decode cK_startOfWay 1 = .ok (.istore_n 2, 1) := by decide +kernel
theorem dK_startOfWay_2 : decode cK_startOfWay 2 = .ok (.iconst 0, 1) := by decide +kernel
theorem dK_startOfWay_3 : decode cK_startOfWay 3 = .ok (.istore_n 3, 1) := by decide +kernel
theorem dK_startOfWay_4 : decode cK_startOfWay 4 = .ok (.iload_n 3, 1) := by decide +kernel
theorem dK_startOfWay_5 : decode cK_startOfWay 5 = .ok (.aload_n 0, 1) := by decide +kernel
theorem dK_startOfWay_6 : decode cK_startOfWay 6 = .ok (.getfield 9, 3) := by decide +kernel
theorem dK_startOfWay_9 : decode cK_startOfWay 9 = .ok (.getfield 78, 3) := by decide +kernel
theorem dK_startOfWay_12 : decode cK_startOfWay 12 = .ok (.if_icmp .ge 33, 3) := by decide +kernel
theorem dK_startOfWay_15 : decode cK_startOfWay 15 = .ok (.aload_n 0, 1) := by decide +kernel
theorem dK_startOfWay_16 : decode cK_startOfWay 16 = .ok (.getfield 15, 3) := by decide +kernel
theorem dK_startOfWay_19 : decode cK_startOfWay 19 = .ok (.getfield 48, 3) := by decide +kernel
theorem dK_startOfWay_22 : decode cK_startOfWay 22 = .ok (.iload_n 3, 1) := by decide +kernel
theorem dK_startOfWay_23 : decode cK_startOfWay 23 = .ok (.baload, 1) := by decide +kernel
theorem dK_startOfWay_24 : decode cK_startOfWay 24 = .ok (.ifCond .eq 15, 3) := by decide +kernel
theorem dK_startOfWay_27 : decode cK_startOfWay 27 = .ok (.aload_n 0, 1) := by decide +kernel
theorem dK_startOfWay_28 : decode cK_startOfWay 28 = .ok (.getfield 35, 3) := by decide +kernel
theorem dK_startOfWay_31 : decode cK_startOfWay 31 = .ok (.iload_n 3, 1) := by decide +kernel
theorem dK_startOfWay_32 : decode cK_startOfWay 32 = .ok (.iaload, 1) := by decide +kernel
theorem dK_startOfWay_33 : decode cK_startOfWay 33 = .ok (.iload_n 1, 1) := by decide +kernel
theorem dK_startOfWay_34 : decode cK_startOfWay 34 = .ok (.if_icmp .gt 5, 3) := by decide +kernel
theorem dK_startOfWay_37 : decode cK_startOfWay 37 = .ok (.iload_n 3, 1) := by decide +kernel
theorem dK_startOfWay_38 : decode cK_startOfWay 38 = .ok (.istore_n 2, 1) := by decide +kernel
theorem dK_startOfWay_39 : decode cK_startOfWay 39 = .ok (.iinc 3 1, 3) := by decide +kernel
theorem dK_startOfWay_42 : decode cK_startOfWay 42 = .ok (.goto (-38), 3) := by decide +kernel
theorem dK_startOfWay_45 : decode cK_startOfWay 45 = .ok (.iload_n 2, 1) := by decide +kernel
theorem dK_startOfWay_46 : decode cK_startOfWay 46 = .ok (.ireturn, 1) := by decide +kernel
theorem dK_edgeOfWay_0 : decode cK_edgeOfWay 0 = .ok (.iload_n 2, 1) := by decide +kernel
theorem dK_edgeOfWay_1 : decode cK_edgeOfWay 1 = .ok (.ifCond .ge 7, 3) := by decide +kernel
theorem dK_edgeOfWay_4 : decode cK_edgeOfWay 4 = .ok (.iconst 0, 1) := by decide +kernel
theorem dK_edgeOfWay_5 : decode cK_edgeOfWay 5 = .ok (.goto 12, 3) := by decide +kernel
theorem dK_edgeOfWay_8 : decode cK_edgeOfWay 8 = .ok (.aload_n 0, 1) := by decide +kernel
theorem dK_edgeOfWay_9 : decode cK_edgeOfWay 9 = .ok (.getfield 9, 3) := by decide +kernel
theorem dK_edgeOfWay_12 : decode cK_edgeOfWay 12 = .ok (.getfield 54, 3) := by decide +kernel
theorem dK_edgeOfWay_15 : decode cK_edgeOfWay 15 = .ok (.iload_n 2, 1) := by decide +kernel
theorem dK_edgeOfWay_16 : decode cK_edgeOfWay 16 = .ok (.iaload, 1) := by decide +kernel
theorem dK_edgeOfWay_17 : decode cK_edgeOfWay 17 = .ok (.istore 4, 2) := by decide +kernel
theorem dK_edgeOfWay_19 : decode cK_edgeOfWay 19 = .ok (.iload_n 2, 1) := by decide +kernel
theorem dK_edgeOfWay_20 : decode cK_edgeOfWay 20 = .ok (.ifCond .ge 7, 3) := by decide +kernel
theorem dK_edgeOfWay_23 : decode cK_edgeOfWay 23 = .ok (.iload_n 1, 1) := by decide +kernel
theorem dK_edgeOfWay_24 : decode cK_edgeOfWay 24 = .ok (.goto 11, 3) := by decide +kernel
theorem dK_edgeOfWay_27 : decode cK_edgeOfWay 27 = .ok (.iload_n 1, 1) := by decide +kernel
theorem dK_edgeOfWay_28 : decode cK_edgeOfWay 28 = .ok (.aload_n 0, 1) := by decide +kernel
theorem dK_edgeOfWay_29 : decode cK_edgeOfWay 29 = .ok (.getfield 35, 3) := by decide +kernel
theorem dK_edgeOfWay_32 : decode cK_edgeOfWay 32 = .ok (.iload_n 2, 1) := by decide +kernel
theorem dK_edgeOfWay_33 : decode cK_edgeOfWay 33 = .ok (.iaload, 1) := by decide +kernel
theorem dK_edgeOfWay_34 : decode cK_edgeOfWay 34 = .ok (.isub, 1) := by decide +kernel
theorem dK_edgeOfWay_35 : decode cK_edgeOfWay 35 = .ok (.istore 5, 2) := by decide +kernel
theorem dK_edgeOfWay_37 : decode cK_edgeOfWay 37 = .ok (.iconst 1, 1) := by decide +kernel
theorem dK_edgeOfWay_38 : decode cK_edgeOfWay 38 = .ok (.istore 6, 2) := by decide +kernel
theorem dK_edgeOfWay_40 : decode cK_edgeOfWay 40 = .ok (.iload 6, 2) := by decide +kernel
theorem dK_edgeOfWay_42 : decode cK_edgeOfWay 42 = .ok (.aload_n 0, 1) := by decide +kernel
theorem dK_edgeOfWay_43 : decode cK_edgeOfWay 43 = .ok (.getfield 9, 3) := by decide +kernel
theorem dK_edgeOfWay_46 : decode cK_edgeOfWay 46 = .ok (.getfield 66, 3) := by decide +kernel
theorem dK_edgeOfWay_49 : decode cK_edgeOfWay 49 = .ok (.if_icmp .ge 69, 3) := by decide +kernel
theorem dK_edgeOfWay_52 : decode cK_edgeOfWay 52 = .ok (.iload 4, 2) := by decide +kernel
theorem dK_edgeOfWay_54 : decode cK_edgeOfWay 54 = .ok (.iconst 1, 1) := by decide +kernel
theorem dK_edgeOfWay_55 : decode cK_edgeOfWay 55 = .ok (.if_icmp .eq 63, 3) := by decide +kernel
theorem dK_edgeOfWay_58 : decode cK_edgeOfWay 58 = .ok (.aload_n 0, 1) := by decide +kernel
theorem dK_edgeOfWay_59 : decode cK_edgeOfWay 59 = .ok (.iload 4, 2) := by decide +kernel
theorem dK_edgeOfWay_61 : decode cK_edgeOfWay 61 = .ok (.iload 5, 2) := by decide +kernel
theorem dK_edgeOfWay_63 : decode cK_edgeOfWay 63 = .ok (.invokevirtual 103, 3) := by decide +kernel
theorem dK_edgeOfWay_66 : decode cK_edgeOfWay 66 = .ok (.istore 7, 2) := by decide +kernel
theorem dK_edgeOfWay_68 : decode cK_edgeOfWay 68 = .ok (.iload 7, 2) := by decide +kernel
theorem dK_edgeOfWay_70 : decode cK_edgeOfWay 70 = .ok (.ifCond .lt 9, 3) := by decide +kernel
theorem dK_edgeOfWay_73 : decode cK_edgeOfWay 73 = .ok (.iload 6, 2) := by decide +kernel
theorem dK_edgeOfWay_75 : decode cK_edgeOfWay 75 = .ok (.iload_n 3, 1) := by decide +kernel
theorem dK_edgeOfWay_76 : decode cK_edgeOfWay 76 = .ok (.if_icmp .ne 16, 3) := by decide +kernel
theorem dK_edgeOfWay_79 : decode cK_edgeOfWay 79 = .ok (.iload 7, 2) := by decide +kernel
theorem dK_edgeOfWay_81 : decode cK_edgeOfWay 81 = .ok (.ifCond .ge 8, 3) := by decide +kernel
theorem dK_edgeOfWay_84 : decode cK_edgeOfWay 84 = .ok (.ldc 106, 2) := by decide +kernel
theorem dK_edgeOfWay_86 : decode cK_edgeOfWay 86 = .ok (.goto 5, 3) := by decide +kernel
theorem dK_edgeOfWay_89 : decode cK_edgeOfWay 89 = .ok (.iload 7, 2) := by decide +kernel
theorem dK_edgeOfWay_91 : decode cK_edgeOfWay 91 = .ok (.ireturn, 1) := by decide +kernel
theorem dK_edgeOfWay_92 : decode cK_edgeOfWay 92 = .ok (.iload 5, 2) := by decide +kernel
theorem dK_edgeOfWay_94 : decode cK_edgeOfWay 94 = .ok (.aload_n 0, 1) := by decide +kernel
theorem dK_edgeOfWay_95 : decode cK_edgeOfWay 95 = .ok (.getfield 32, 3) := by decide +kernel
theorem dK_edgeOfWay_98 : decode cK_edgeOfWay 98 = .ok (.iload 7, 2) := by decide +kernel
theorem dK_edgeOfWay_100 : decode cK_edgeOfWay 100 = .ok (.iaload, 1) := by decide +kernel
theorem dK_edgeOfWay_101 : decode cK_edgeOfWay 101 = .ok (.isub, 1) := by decide +kernel
theorem dK_edgeOfWay_102 : decode cK_edgeOfWay 102 = .ok (.istore 5, 2) := by decide +kernel
theorem dK_edgeOfWay_104 : decode cK_edgeOfWay 104 = .ok (.aload_n 0, 1) := by decide +kernel
theorem dK_edgeOfWay_105 : decode cK_edgeOfWay 105 = .ok (.iload 7, 2) := by decide +kernel
theorem dK_edgeOfWay_107 : decode cK_edgeOfWay 107 = .ok (.invokevirtual 62, 3) := by decide +kernel
theorem dK_edgeOfWay_110 : decode cK_edgeOfWay 110 = .ok (.istore 4, 2) := by decide +kernel
theorem dK_edgeOfWay_112 : decode cK_edgeOfWay 112 = .ok (.iinc 6 1, 3) := by decide +kernel
theorem dK_edgeOfWay_115 : decode cK_edgeOfWay 115 = .ok (.goto (-75), 3) := by decide +kernel
theorem dK_edgeOfWay_118 : decode cK_edgeOfWay 118 = .ok (.ldc 106, 2) := by decide +kernel
theorem dK_edgeOfWay_120 : decode cK_edgeOfWay 120 = .ok (.ireturn, 1) := by decide +kernel
theorem dK_linkFrom_0 : decode cK_linkFrom 0 = .ok (.iconst (-1), 1) := by decide +kernel
theorem dK_linkFrom_1 : decode cK_linkFrom 1 = .ok (.istore_n 3, 1) := by decide +kernel
theorem dK_linkFrom_2 : decode cK_linkFrom 2 = .ok (.iconst 0, 1) := by decide +kernel
theorem dK_linkFrom_3 : decode cK_linkFrom 3 = .ok (.istore 4, 2) := by decide +kernel
theorem dK_linkFrom_5 : decode cK_linkFrom 5 = .ok (.iload 4, 2) := by decide +kernel
theorem dK_linkFrom_7 : decode cK_linkFrom 7 = .ok (.aload_n 0, 1) := by decide +kernel
theorem dK_linkFrom_8 : decode cK_linkFrom 8 = .ok (.getfield 9, 3) := by decide +kernel
theorem dK_linkFrom_11 : decode cK_linkFrom 11 = .ok (.getfield 78, 3) := by decide +kernel
theorem dK_linkFrom_14 : decode cK_linkFrom 14 = .ok (.if_icmp .ge 37, 3) := by decide +kernel
theorem dK_linkFrom_17 : decode cK_linkFrom 17 = .ok (.aload_n 0, 1) := by decide +kernel
theorem dK_linkFrom_18 : decode cK_linkFrom 18 = .ok (.getfield 9, 3) := by decide +kernel
theorem dK_linkFrom_21 : decode cK_linkFrom 21 = .ok (.getfield 59, 3) := by decide +kernel
theorem dK_linkFrom_24 : decode cK_linkFrom 24 = .ok (.iload 4, 2) := by decide +kernel
theorem dK_linkFrom_26 : decode cK_linkFrom 26 = .ok (.iaload, 1) := by decide +kernel
theorem dK_linkFrom_27 : decode cK_linkFrom 27 = .ok (.iload_n 1, 1) := by decide +kernel
theorem dK_linkFrom_28 : decode cK_linkFrom 28 = .ok (.if_icmp .ne 17, 3) := by decide +kernel
theorem dK_linkFrom_31 : decode cK_linkFrom 31 = .ok (.aload_n 0, 1) := by decide +kernel
theorem dK_linkFrom_32 : decode cK_linkFrom 32 = .ok (.getfield 32, 3) := by decide +kernel
theorem dK_linkFrom_35 : decode cK_linkFrom 35 = .ok (.iload 4, 2) := by decide +kernel
theorem dK_linkFrom_37 : decode cK_linkFrom 37 = .ok (.iaload, 1) := by decide +kernel
theorem dK_linkFrom_38 : decode cK_linkFrom 38 = .ok (.iload_n 2, 1) := by decide +kernel
theorem dK_linkFrom_39 : decode cK_linkFrom 39 = .ok (.if_icmp .gt 6, 3) := by decide +kernel
end
section
/-! rows that decode, K -/
theorem dK_linkFrom_42 : decode cK_linkFrom 42 = .ok (.iload 4, 2) := by decide +kernel
theorem dK_linkFrom_44 : decode cK_linkFrom 44 = .ok (.istore_n 3, 1) := by decide +kernel
theorem dK_linkFrom_45 : decode cK_linkFrom 45 = .ok (.iinc 4 1, 3) := by decide +kernel
theorem dK_linkFrom_48 : decode cK_linkFrom 48 = .ok (.goto (-43), 3) := by decide +kernel
theorem dK_linkFrom_51 : decode cK_linkFrom 51 = .ok (.iload_n 3, 1) := by decide +kernel
theorem dK_linkFrom_52 : decode cK_linkFrom 52 = .ok (.ireturn, 1) := by decide +kernel
end
section
/-! rows that decode, M -/
theorem dM_init_0 : decode cM_init 0 = .ok (.aload_n 0, 1) := by decide +kernel
theorem dM_init_1 : decode cM_init 1 = .ok (.invokespecial 1, 3) := by decide +kernel
theorem dM_init_4 : decode cM_init 4 = .ok (.aload_n 0, 1) := by decide +kernel
theorem dM_init_5 : decode cM_init 5 = .ok (.bipush 24, 2) := by decide +kernel
theorem dM_init_7 : decode cM_init 7 = .ok (.newarray .int, 2) := by decide +kernel
theorem dM_init_9 : decode cM_init 9 = .ok (.putfield 7, 3) := by decide +kernel
theorem dM_init_12 : decode cM_init 12 = .ok (.aload_n 0, 1) := by decide +kernel
theorem dM_init_13 : decode cM_init 13 = .ok (.bipush 24, 2) := by decide +kernel
theorem dM_init_15 : decode cM_init 15 = .ok (.newarray .int, 2) := by decide +kernel
theorem dM_init_17 : decode cM_init 17 = .ok (.putfield 13, 3) := by decide +kernel
theorem dM_init_20 : decode cM_init 20 = .ok (.aload_n 0, 1) := by decide +kernel
theorem dM_init_21 : decode cM_init 21 = .ok (.bipush 12, 2) := by decide +kernel
theorem dM_init_23 : decode cM_init 23 = .ok (.newarray .int, 2) := by decide +kernel
theorem dM_init_25 : decode cM_init 25 = .ok (.putfield 16, 3) := by decide +kernel
theorem dM_init_28 : decode cM_init 28 = .ok (.aload_n 0, 1) := by decide +kernel
theorem dM_init_29 : decode cM_init 29 = .ok (.bipush 12, 2) := by decide +kernel
theorem dM_init_31 : decode cM_init 31 = .ok (.newarray .int, 2) := by decide +kernel
theorem dM_init_33 : decode cM_init 33 = .ok (.putfield 19, 3) := by decide +kernel
theorem dM_init_36 : decode cM_init 36 = .ok (.aload_n 0, 1) := by decide +kernel
theorem dM_init_37 : decode cM_init 37 = .ok (.bipush 12, 2) := by decide +kernel
theorem dM_init_39 : decode cM_init 39 = .ok (.newarray .int, 2) := by decide +kernel
theorem dM_init_41 : decode cM_init 41 = .ok (.putfield 22, 3) := by decide +kernel
theorem dM_init_44 : decode cM_init 44 = .ok (.aload_n 0, 1) := by decide +kernel
theorem dM_init_45 : decode cM_init 45 = .ok (.bipush 24, 2) := by decide +kernel
theorem dM_init_47 : decode cM_init 47 = .ok (.newarray .boolean, 2) := by decide +kernel
theorem dM_init_49 : decode cM_init 49 = .ok (.putfield 25, 3) := by decide +kernel
theorem dM_init_52 : decode cM_init 52 = .ok (.aload_n 0, 1) := by decide +kernel
theorem dM_init_53 : decode cM_init 53 = .ok (.bipush 12, 2) := by decide +kernel
theorem dM_init_55 : decode cM_init 55 = .ok (.newarray .boolean, 2) := by decide +kernel
theorem dM_init_57 : decode cM_init 57 = .ok (.putfield 29, 3) := by decide +kernel
theorem dM_init_60 : decode cM_init 60 = .ok (.aload_n 0, 1) := by decide +kernel
theorem dM_init_61 : decode cM_init 61 = .ok (.bipush 12, 2) := by decide +kernel
theorem dM_init_63 : decode cM_init 63 = .ok (.newarray .int, 2) := by decide +kernel
theorem dM_init_65 : decode cM_init 65 = .ok (.putfield 32, 3) := by decide +kernel
theorem dM_init_68 : decode cM_init 68 = .ok (.aload_n 0, 1) := by decide +kernel
theorem dM_init_69 : decode cM_init 69 = .ok (.bipush 24, 2) := by decide +kernel
theorem dM_init_71 : decode cM_init 71 = .ok (.newarray .int, 2) := by decide +kernel
theorem dM_init_73 : decode cM_init 73 = .ok (.putfield 35, 3) := by decide +kernel
theorem dM_init_76 : decode cM_init 76 = .ok (.aload_n 0, 1) := by decide +kernel
theorem dM_init_77 : decode cM_init 77 = .ok (.bipush 24, 2) := by decide +kernel
theorem dM_init_79 : decode cM_init 79 = .ok (.newarray .boolean, 2) := by decide +kernel
theorem dM_init_81 : decode cM_init 81 = .ok (.putfield 38, 3) := by decide +kernel
theorem dM_init_84 : decode cM_init 84 = .ok (.aload_n 0, 1) := by decide +kernel
theorem dM_init_85 : decode cM_init 85 = .ok (.bipush 48, 2) := by decide +kernel
theorem dM_init_87 : decode cM_init 87 = .ok (.newarray .boolean, 2) := by decide +kernel
theorem dM_init_89 : decode cM_init 89 = .ok (.putfield 41, 3) := by decide +kernel
theorem dM_init_92 : decode cM_init 92 = .ok (.aload_n 0, 1) := by decide +kernel
theorem dM_init_93 : decode cM_init 93 = .ok (.bipush 48, 2) := by decide +kernel
theorem dM_init_95 : decode cM_init 95 = .ok (.newarray .int, 2) := by decide +kernel
theorem dM_init_97 : decode cM_init 97 = .ok (.putfield 44, 3) := by decide +kernel
theorem dM_init_100 : decode cM_init 100 = .ok (.aload_n 0, 1) := by decide +kernel
theorem dM_init_101 : decode cM_init 101 = .ok (.bipush 48, 2) := by decide +kernel
theorem dM_init_103 : decode cM_init 103 = .ok (.newarray .int, 2) := by decide +kernel
theorem dM_init_105 : decode cM_init 105 = .ok (.putfield 47, 3) := by decide +kernel
theorem dM_init_108 : decode cM_init 108 = .ok (.aload_n 0, 1) := by decide +kernel
theorem dM_init_109 : decode cM_init 109 = .ok (.bipush 12, 2) := by decide +kernel
theorem dM_init_111 : decode cM_init 111 = .ok (.newarray .int, 2) := by decide +kernel
theorem dM_init_113 : decode cM_init 113 = .ok (.putfield 50, 3) := by decide +kernel
theorem dM_init_116 : decode cM_init 116 = .ok (.aload_n 0, 1) := by decide +kernel
theorem dM_init_117 : decode cM_init 117 = .ok (.bipush 48, 2) := by decide +kernel
theorem dM_init_119 : decode cM_init 119 = .ok (.newarray .boolean, 2) := by decide +kernel
theorem dM_init_121 : decode cM_init 121 = .ok (.putfield 53, 3) := by decide +kernel
theorem dM_init_124 : decode cM_init 124 = .ok (.aload_n 0, 1) := by decide +kernel
theorem dM_init_125 : decode cM_init 125 = .ok (.bipush 12, 2) := by decide +kernel
theorem dM_init_127 : decode cM_init 127 = .ok (.newarray .boolean, 2) := by decide +kernel
theorem dM_init_129 : decode cM_init 129 = .ok (.putfield 56, 3) := by decide +kernel
theorem dM_init_132 : decode cM_init 132 = .ok (.aload_n 0, 1) := by decide +kernel
theorem dM_init_133 : decode cM_init 133 = .ok (.bipush 12, 2) := by decide +kernel
theorem dM_init_135 : decode cM_init 135 = .ok (.newarray .int, 2) := by decide +kernel
theorem dM_init_137 : decode cM_init 137 = .ok (.putfield 59, 3) := by decide +kernel
theorem dM_init_140 : decode cM_init 140 = .ok (.aload_n 0, 1) := by decide +kernel
theorem dM_init_141 : decode cM_init 141 = .ok (.bipush 48, 2) := by decide +kernel
theorem dM_init_143 : decode cM_init 143 = .ok (.newarray .int, 2) := by decide +kernel
theorem dM_init_145 : decode cM_init 145 = .ok (.putfield 62, 3) := by decide +kernel
theorem dM_init_148 : decode cM_init 148 = .ok (.aload_n 0, 1) := by decide +kernel
theorem dM_init_149 : decode cM_init 149 = .ok (.bipush 48, 2) := by decide +kernel
theorem dM_init_151 : decode cM_init 151 = .ok (.newarray .int, 2) := by decide +kernel
theorem dM_init_153 : decode cM_init 153 = .ok (.putfield 65, 3) := by decide +kernel
theorem dM_init_156 : decode cM_init 156 = .ok (.aload_n 0, 1) := by decide +kernel
theorem dM_init_157 : decode cM_init 157 = .ok (.sipush 200, 3) := by decide +kernel
theorem dM_init_160 : decode cM_init 160 = .ok (.newarray .int, 2) := by decide +kernel
theorem dM_init_162 : decode cM_init 162 = .ok (.putfield 68, 3) := by decide +kernel
theorem dM_init_165 : decode cM_init 165 = .ok (.aload_n 0, 1) := by decide +kernel
theorem dM_init_166 : decode cM_init 166 = .ok (.sipush 3200, 3) := by decide +kernel
theorem dM_init_169 : decode cM_init 169 = .ok (.newarray .int, 2) := by decide +kernel
theorem dM_init_171 : decode cM_init 171 = .ok (.putfield 71, 3) := by decide +kernel
theorem dM_init_174 : decode cM_init 174 = .ok (.aload_n 0, 1) := by decide +kernel
theorem dM_init_175 : decode cM_init 175 = .ok (.bipush 16, 2) := by decide +kernel
theorem dM_init_177 : decode cM_init 177 = .ok (.newarray .int, 2) := by decide +kernel
theorem dM_init_179 : decode cM_init 179 = .ok (.putfield 74, 3) := by decide +kernel
theorem dM_init_182 : decode cM_init 182 = .ok (.aload_n 0, 1) := by decide +kernel
theorem dM_init_183 : decode cM_init 183 = .ok (.bipush 16, 2) := by decide +kernel
theorem dM_init_185 : decode cM_init 185 = .ok (.newarray .int, 2) := by decide +kernel
theorem dM_init_187 : decode cM_init 187 = .ok (.putfield 77, 3) := by decide +kernel
theorem dM_init_190 : decode cM_init 190 = .ok (.aload_n 0, 1) := by decide +kernel
theorem dM_init_191 : decode cM_init 191 = .ok (.bipush 24, 2) := by decide +kernel
theorem dM_init_193 : decode cM_init 193 = .ok (.newarray .int, 2) := by decide +kernel
theorem dM_init_195 : decode cM_init 195 = .ok (.putfield 80, 3) := by decide +kernel
theorem dM_init_198 : decode cM_init 198 = .ok (.aload_n 0, 1) := by decide +kernel
theorem dM_init_199 : decode cM_init 199 = .ok (.bipush 12, 2) := by decide +kernel
theorem dM_init_201 : decode cM_init 201 = .ok (.newarray .int, 2) := by decide +kernel
theorem dM_init_203 : decode cM_init 203 = .ok (.putfield 83, 3) := by decide +kernel
theorem dM_init_206 : decode cM_init 206 = .ok (.aload_n 0, 1) := by decide +kernel
theorem dM_init_207 : decode cM_init 207 = .ok (.sipush 200, 3) := by decide +kernel
theorem dM_init_210 : decode cM_init 210 = .ok (.newarray .int, 2) := by decide +kernel
theorem dM_init_212 : decode cM_init 212 = .ok (.putfield 86, 3) := by decide +kernel
theorem dM_init_215 : decode cM_init 215 = .ok (.aload_n 0, 1) := by decide +kernel
theorem dM_init_216 : decode cM_init 216 = .ok (.bipush 12, 2) := by decide +kernel
theorem dM_init_218 : decode cM_init 218 = .ok (.newarray .int, 2) := by decide +kernel
theorem dM_init_220 : decode cM_init 220 = .ok (.putfield 89, 3) := by decide +kernel
theorem dM_init_223 : decode cM_init 223 = .ok (.aload_n 0, 1) := by decide +kernel
theorem dM_init_224 : decode cM_init 224 = .ok (.iload_n 1, 1) := by decide +kernel
theorem dM_init_225 : decode cM_init 225 = .ok (.iconst 2, 1) := by decide +kernel
theorem dM_init_226 : decode cM_init 226 = .ok (.if_icmp .ge 7, 3) := by decide +kernel
theorem dM_init_229 : decode cM_init 229 = .ok (.iconst 2, 1) := by decide +kernel
theorem dM_init_230 : decode cM_init 230 = .ok (.goto 15, 3) := by decide +kernel
theorem dM_init_233 : decode cM_init 233 = .ok (.iload_n 1, 1) := by decide +kernel
theorem dM_init_234 : decode cM_init 234 = .ok (.bipush 12, 2) := by decide +kernel
theorem dM_init_236 : decode cM_init 236 = .ok (.if_icmp .le 8, 3) := by decide +kernel
theorem dM_init_239 : decode cM_init 239 = .ok (.bipush 12, 2) := by decide +kernel
theorem dM_init_241 : decode cM_init 241 = .ok (.goto 4, 3) := by decide +kernel
theorem dM_init_244 : decode cM_init 244 = .ok (.iload_n 1, 1) := by decide +kernel
theorem dM_init_245 : decode cM_init 245 = .ok (.putfield 92, 3) := by decide +kernel
theorem dM_init_248 : decode cM_init 248 = .ok (.return_, 1) := by decide +kernel
theorem dM_block_0 : decode cM_block 0 = .ok (.iload_n 1, 1) := by decide +kernel
theorem dM_block_1 : decode cM_block 1 = .ok (.ifCond .lt 15, 3) := by decide +kernel
theorem dM_block_4 : decode cM_block 4 = .ok (.iload_n 1, 1) := by decide +kernel
theorem dM_block_5 : decode cM_block 5 = .ok (.aload_n 0, 1) := by decide +kernel
theorem dM_block_6 : decode cM_block 6 = .ok (.getfield 92, 3) := by decide +kernel
theorem dM_block_9 : decode cM_block 9 = .ok (.if_icmp .ge 7, 3) := by decide +kernel
theorem dM_block_12 : decode cM_block 12 = .ok (.iconst 1, 1) := by decide +kernel
theorem dM_block_13 : decode cM_block 13 = .ok (.goto 4, 3) := by decide +kernel
theorem dM_block_16 : decode cM_block 16 = .ok (.iconst 0, 1) := by decide +kernel
theorem dM_block_17 : decode cM_block 17 = .ok (.ireturn, 1) := by decide +kernel
theorem dM_known_0 : decode cM_known 0 = .ok (.aload_n 0, 1) := by decide +kernel
theorem dM_known_1 : decode cM_known 1 = .ok (.getfield 96, 3) := by decide +kernel
theorem dM_known_4 : decode cM_known 4 = .ok (.ifCond .eq 19, 3) := by decide +kernel
theorem dM_known_7 : decode cM_known 7 = .ok (.iload_n 1, 1) := by decide +kernel
theorem dM_known_8 : decode cM_known 8 = .ok (.ifCond .lt 15, 3) := by decide +kernel
theorem dM_known_11 : decode cM_known 11 = .ok (.iload_n 1, 1) := by decide +kernel
theorem dM_known_12 : decode cM_known 12 = .ok (.aload_n 0, 1) := by decide +kernel
theorem dM_known_13 : decode cM_known 13 = .ok (.getfield 100, 3) := by decide +kernel
theorem dM_known_16 : decode cM_known 16 = .ok (.if_icmp .ge 7, 3) := by decide +kernel
theorem dM_known_19 : decode cM_known 19 = .ok (.iconst 1, 1) := by decide +kernel
theorem dM_known_20 : decode cM_known 20 = .ok (.goto 4, 3) := by decide +kernel
theorem dM_known_23 : decode cM_known 23 = .ok (.iconst 0, 1) := by decide +kernel
theorem dM_known_24 : decode cM_known 24 = .ok (.ireturn, 1) := by decide +kernel
theorem dM_edge_0 : decode cM_edge 0 = .ok (.aload_n 0, 1) := by decide +kernel
theorem dM_edge_1 : decode cM_edge 1 = .ok (.getfield 96, 3) := by decide +kernel
theorem dM_edge_4 : decode cM_edge 4 = .ok (.ifCond .ne 28, 3) := by decide +kernel
theorem dM_edge_7 : decode cM_edge 7 = .ok (.aload_n 0, 1) := by decide +kernel
theorem dM_edge_8 : decode cM_edge 8 = .ok (.iload_n 1, 1) := by decide +kernel
theorem dM_edge_9 : decode cM_edge 9 = .ok (.invokevirtual 103, 3) := by decide +kernel
theorem dM_edge_12 : decode cM_edge 12 = .ok (.ifCond .eq 20, 3) := by decide +kernel
theorem dM_edge_15 : decode cM_edge 15 = .ok (.aload_n 0, 1) := by decide +kernel
theorem dM_edge_16 : decode cM_edge 16 = .ok (.iload_n 2, 1) := by decide +kernel
theorem dM_edge_17 : decode cM_edge 17 = .ok (.invokevirtual 103, 3) := by decide +kernel
theorem dM_edge_20 : decode cM_edge 20 = .ok (.ifCond .eq 12, 3) := by decide +kernel
theorem dM_edge_23 : decode cM_edge 23 = .ok (.iload_n 1, 1) := by decide +kernel
theorem dM_edge_24 : decode cM_edge 24 = .ok (.iconst 1, 1) := by decide +kernel
theorem dM_edge_25 : decode cM_edge 25 = .ok (.if_icmp .eq 7, 3) := by decide +kernel
theorem dM_edge_28 : decode cM_edge 28 = .ok (.iload_n 2, 1) := by decide +kernel
theorem dM_edge_29 : decode cM_edge 29 = .ok (.ifCond .ne 5, 3) := by decide +kernel
theorem dM_edge_32 : decode cM_edge 32 = .ok (.iconst (-1), 1) := by decide +kernel
theorem dM_edge_33 : decode cM_edge 33 = .ok (.ireturn, 1) := by decide +kernel
theorem dM_edge_34 : decode cM_edge 34 = .ok (.aload_n 0, 1) := by decide +kernel
theorem dM_edge_35 : decode cM_edge 35 = .ok (.getfield 100, 3) := by decide +kernel
theorem dM_edge_38 : decode cM_edge 38 = .ok (.bipush 24, 2) := by decide +kernel
theorem dM_edge_40 : decode cM_edge 40 = .ok (.if_icmp .ne 6, 3) := by decide +kernel
theorem dM_edge_43 : decode cM_edge 43 = .ok (.bipush (-2), 2) := by decide +kernel
theorem dM_edge_45 : decode cM_edge 45 = .ok (.ireturn, 1) := by decide +kernel
theorem dM_edge_46 : decode cM_edge 46 = .ok (.aload_n 0, 1) := by decide +kernel
theorem dM_edge_47 : decode cM_edge 47 = .ok (.getfield 7, 3) := by decide +kernel
theorem dM_edge_50 : decode cM_edge 50 = .ok (.aload_n 0, 1) := by decide +kernel
theorem dM_edge_51 : decode cM_edge 51 = .ok (.getfield 100, 3) := by decide +kernel
theorem dM_edge_54 : decode cM_edge 54 = .ok (.iload_n 1, 1) := by decide +kernel
theorem dM_edge_55 : decode cM_edge 55 = .ok (.iastore, 1) := by decide +kernel
theorem dM_edge_56 : decode cM_edge 56 = .ok (.aload_n 0, 1) := by decide +kernel
theorem dM_edge_57 : decode cM_edge 57 = .ok (.getfield 13, 3) := by decide +kernel
theorem dM_edge_60 : decode cM_edge 60 = .ok (.aload_n 0, 1) := by decide +kernel
theorem dM_edge_61 : decode cM_edge 61 = .ok (.getfield 100, 3) := by decide +kernel
theorem dM_edge_64 : decode cM_edge 64 = .ok (.iload_n 2, 1) := by decide +kernel
theorem dM_edge_65 : decode cM_edge 65 = .ok (.iastore, 1) := by decide +kernel
theorem dM_edge_66 : decode cM_edge 66 = .ok (.aload_n 0, 1) := by decide +kernel
theorem dM_edge_67 : decode cM_edge 67 = .ok (.aload_n 0, 1) := by decide +kernel
theorem dM_edge_68 : decode cM_edge 68 = .ok (.getfield 100, 3) := by decide +kernel
theorem dM_edge_71 : decode cM_edge 71 = .ok (.iconst 1, 1) := by decide +kernel
theorem dM_edge_72 : decode cM_edge 72 = .ok (.iadd, 1) := by decide +kernel
theorem dM_edge_73 : decode cM_edge 73 = .ok (.putfield 100, 3) := by decide +kernel
theorem dM_edge_76 : decode cM_edge 76 = .ok (.aload_n 0, 1) := by decide +kernel
theorem dM_edge_77 : decode cM_edge 77 = .ok (.getfield 100, 3) := by decide +kernel
theorem dM_edge_80 : decode cM_edge 80 = .ok (.iconst 1, 1) := by decide +kernel
theorem dM_edge_81 : decode cM_edge 81 = .ok (.isub, 1) := by decide +kernel
theorem dM_edge_82 : decode cM_edge 82 = .ok (.ireturn, 1) := by decide +kernel
theorem dM_look_0 : decode cM_look 0 = .ok (.aload_n 0, 1) := by decide +kernel
theorem dM_look_1 : decode cM_look 1 = .ok (.getfield 19, 3) := by decide +kernel
theorem dM_look_4 : decode cM_look 4 = .ok (.iload_n 1, 1) := by decide +kernel
theorem dM_look_5 : decode cM_look 5 = .ok (.iaload, 1) := by decide +kernel
theorem dM_look_6 : decode cM_look 6 = .ok (.istore_n 2, 1) := by decide +kernel
theorem dM_look_7 : decode cM_look 7 = .ok (.iload_n 2, 1) := by decide +kernel
theorem dM_look_8 : decode cM_look 8 = .ok (.aload_n 0, 1) := by decide +kernel
theorem dM_look_9 : decode cM_look 9 = .ok (.getfield 100, 3) := by decide +kernel
theorem dM_look_12 : decode cM_look 12 = .ok (.if_icmp .ge 20, 3) := by decide +kernel
theorem dM_look_15 : decode cM_look 15 = .ok (.aload_n 0, 1) := by decide +kernel
theorem dM_look_16 : decode cM_look 16 = .ok (.getfield 7, 3) := by decide +kernel
theorem dM_look_19 : decode cM_look 19 = .ok (.iload_n 2, 1) := by decide +kernel
theorem dM_look_20 : decode cM_look 20 = .ok (.iaload, 1) := by decide +kernel
theorem dM_look_21 : decode cM_look 21 = .ok (.iload_n 1, 1) := by decide +kernel
theorem dM_look_22 : decode cM_look 22 = .ok (.if_icmp .eq 10, 3) := by decide +kernel
theorem dM_look_25 : decode cM_look 25 = .ok (.iload_n 2, 1) := by decide +kernel
theorem dM_look_26 : decode cM_look 26 = .ok (.iconst 1, 1) := by decide +kernel
theorem dM_look_27 : decode cM_look 27 = .ok (.iadd, 1) := by decide +kernel
theorem dM_look_28 : decode cM_look 28 = .ok (.istore_n 2, 1) := by decide +kernel
theorem dM_look_29 : decode cM_look 29 = .ok (.goto (-22), 3) := by decide +kernel
theorem dM_look_32 : decode cM_look 32 = .ok (.aload_n 0, 1) := by decide +kernel
theorem dM_look_33 : decode cM_look 33 = .ok (.getfield 19, 3) := by decide +kernel
theorem dM_look_36 : decode cM_look 36 = .ok (.iload_n 1, 1) := by decide +kernel
theorem dM_look_37 : decode cM_look 37 = .ok (.iload_n 2, 1) := by decide +kernel
theorem dM_look_38 : decode cM_look 38 = .ok (.iconst 1, 1) := by decide +kernel
theorem dM_look_39 : decode cM_look 39 = .ok (.iadd, 1) := by decide +kernel
theorem dM_look_40 : decode cM_look 40 = .ok (.iastore, 1) := by decide +kernel
theorem dM_look_41 : decode cM_look 41 = .ok (.iload_n 2, 1) := by decide +kernel
theorem dM_look_42 : decode cM_look 42 = .ok (.ireturn, 1) := by decide +kernel
theorem dM_search_0 : decode cM_search 0 = .ok (.iconst 0, 1) := by decide +kernel
theorem dM_search_1 : decode cM_search 1 = .ok (.istore_n 1, 1) := by decide +kernel
theorem dM_search_2 : decode cM_search 2 = .ok (.iload_n 1, 1) := by decide +kernel
theorem dM_search_3 : decode cM_search 3 = .ok (.aload_n 0, 1) := by decide +kernel
theorem dM_search_4 : decode cM_search 4 = .ok (.getfield 92, 3) := by decide +kernel
theorem dM_search_7 : decode cM_search 7 = .ok (.if_icmp .ge 23, 3) := by decide +kernel
theorem dM_search_10 : decode cM_search 10 = .ok (.aload_n 0, 1) := by decide +kernel
theorem dM_search_11 : decode cM_search 11 = .ok (.getfield 16, 3) := by decide +kernel
theorem dM_search_14 : decode cM_search 14 = .ok (.iload_n 1, 1) := by decide +kernel
theorem dM_search_15 : decode cM_search 15 = .ok (.iconst 0, 1) := by decide +kernel
theorem dM_search_16 : decode cM_search 16 = .ok (.iastore, 1) := by decide +kernel
theorem dM_search_17 : decode cM_search 17 = .ok (.aload_n 0, 1) := by decide +kernel
theorem dM_search_18 : decode cM_search 18 = .ok (.getfield 19, 3) := by decide +kernel
theorem dM_search_21 : decode cM_search 21 = .ok (.iload_n 1, 1) := by decide +kernel
theorem dM_search_22 : decode cM_search 22 = .ok (.iconst 0, 1) := by decide +kernel
theorem dM_search_23 : decode cM_search 23 = .ok (.iastore, 1) := by decide +kernel
theorem dM_search_24 : decode cM_search 24 = .ok (.iinc 1 1, 3) := by decide +kernel
theorem dM_search_27 : decode cM_search 27 = .ok (.goto (-25), 3) := by decide +kernel
theorem dM_search_30 : decode cM_search 30 = .ok (.iconst 1, 1) := by decide +kernel
theorem dM_search_31 : decode cM_search 31 = .ok (.istore_n 1, 1) := by decide +kernel
theorem dM_search_32 : decode cM_search 32 = .ok (.aload_n 0, 1) := by decide +kernel
theorem dM_search_33 : decode cM_search 33 = .ok (.getfield 22, 3) := by decide +kernel
theorem dM_search_36 : decode cM_search 36 = .ok (.iconst 0, 1) := by decide +kernel
theorem dM_search_37 : decode cM_search 37 = .ok (.iconst 0, 1) := by decide +kernel
theorem dM_search_38 : decode cM_search 38 = .ok (.iastore, 1) := by decide +kernel
theorem dM_search_39 : decode cM_search 39 = .ok (.aload_n 0, 1) := by decide +kernel
theorem dM_search_40 : decode cM_search 40 = .ok (.getfield 16, 3) := by decide +kernel
theorem dM_search_43 : decode cM_search 43 = .ok (.iconst 0, 1) := by decide +kernel
theorem dM_search_44 : decode cM_search 44 = .ok (.iconst 1, 1) := by decide +kernel
theorem dM_search_45 : decode cM_search 45 = .ok (.iastore, 1) := by decide +kernel
theorem dM_search_46 : decode cM_search 46 = .ok (.iload_n 1, 1) := by decide +kernel
theorem dM_search_47 : decode cM_search 47 = .ok (.ifCond .le 103, 3) := by decide +kernel
theorem dM_search_50 : decode cM_search 50 = .ok (.aload_n 0, 1) := by decide +kernel
theorem dM_search_51 : decode cM_search 51 = .ok (.getfield 22, 3) := by decide +kernel
theorem dM_search_54 : decode cM_search 54 = .ok (.iload_n 1, 1) := by decide +kernel
theorem dM_search_55 : decode cM_search 55 = .ok (.iconst 1, 1) := by decide +kernel
theorem dM_search_56 : decode cM_search 56 = .ok (.isub, 1) := by decide +kernel
theorem dM_search_57 : decode cM_search 57 = .ok (.iaload, 1) := by decide +kernel
theorem dM_search_58 : decode cM_search 58 = .ok (.istore_n 2, 1) := by decide +kernel
theorem dM_search_59 : decode cM_search 59 = .ok (.aload_n 0, 1) := by decide +kernel
theorem dM_search_60 : decode cM_search 60 = .ok (.iload_n 2, 1) := by decide +kernel
theorem dM_search_61 : decode cM_search 61 = .ok (.invokevirtual 107, 3) := by decide +kernel
theorem dM_search_64 : decode cM_search 64 = .ok (.istore_n 3, 1) := by decide +kernel
theorem dM_search_65 : decode cM_search 65 = .ok (.iload_n 3, 1) := by decide +kernel
theorem dM_search_66 : decode cM_search 66 = .ok (.aload_n 0, 1) := by decide +kernel
theorem dM_search_67 : decode cM_search 67 = .ok (.getfield 100, 3) := by decide +kernel
theorem dM_search_70 : decode cM_search 70 = .ok (.if_icmp .lt 17, 3) := by decide +kernel
theorem dM_search_73 : decode cM_search 73 = .ok (.aload_n 0, 1) := by decide +kernel
theorem dM_search_74 : decode cM_search 74 = .ok (.getfield 16, 3) := by decide +kernel
theorem dM_search_77 : decode cM_search 77 = .ok (.iload_n 2, 1) := by decide +kernel
theorem dM_search_78 : decode cM_search 78 = .ok (.iconst 2, 1) := by decide +kernel
theorem dM_search_79 : decode cM_search 79 = .ok (.iastore, 1) := by decide +kernel
theorem dM_search_80 : decode cM_search 80 = .ok (.iload_n 1, 1) := by decide +kernel
theorem dM_search_81 : decode cM_search 81 = .ok (.iconst 1, 1) := by decide +kernel
theorem dM_search_82 : decode cM_search 82 = .ok (.isub, 1) := by decide +kernel
theorem dM_search_83 : decode cM_search 83 = .ok (.istore_n 1, 1) := by decide +kernel
theorem dM_search_84 : decode cM_search 84 = .ok (.goto 63, 3) := by decide +kernel
theorem dM_search_87 : decode cM_search 87 = .ok (.aload_n 0, 1) := by decide +kernel
theorem dM_search_88 : decode cM_search 88 = .ok (.getfield 13, 3) := by decide +kernel
theorem dM_search_91 : decode cM_search 91 = .ok (.iload_n 3, 1) := by decide +kernel
theorem dM_search_92 : decode cM_search 92 = .ok (.iaload, 1) := by decide +kernel
theorem dM_search_93 : decode cM_search 93 = .ok (.istore 4, 2) := by decide +kernel
theorem dM_search_95 : decode cM_search 95 = .ok (.aload_n 0, 1) := by decide +kernel
theorem dM_search_96 : decode cM_search 96 = .ok (.getfield 25, 3) := by decide +kernel
theorem dM_search_99 : decode cM_search 99 = .ok (.iload_n 3, 1) := by decide +kernel
theorem dM_search_100 : decode cM_search 100 = .ok (.aload_n 0, 1) := by decide +kernel
theorem dM_search_101 : decode cM_search 101 = .ok (.getfield 16, 3) := by decide +kernel
theorem dM_search_104 : decode cM_search 104 = .ok (.iload 4, 2) := by decide +kernel
theorem dM_search_106 : decode cM_search 106 = .ok (.iaload, 1) := by decide +kernel
theorem dM_search_107 : decode cM_search 107 = .ok (.iconst 1, 1) := by decide +kernel
theorem dM_search_108 : decode cM_search 108 = .ok (.if_icmp .ne 7, 3) := by decide +kernel
theorem dM_search_111 : decode cM_search 111 = .ok (.iconst 1, 1) := by decide +kernel
theorem dM_search_112 : decode cM_search 112 = .ok (.goto 4, 3) := by decide +kernel
theorem dM_search_115 : decode cM_search 115 = .ok (.iconst 0, 1) := by decide +kernel
theorem dM_search_116 : decode cM_search 116 = .ok (.bastore, 1) := by decide +kernel
theorem dM_search_117 : decode cM_search 117 = .ok (.aload_n 0, 1) := by decide +kernel
theorem dM_search_118 : decode cM_search 118 = .ok (.getfield 16, 3) := by decide +kernel
theorem dM_search_121 : decode cM_search 121 = .ok (.iload 4, 2) := by decide +kernel
theorem dM_search_123 : decode cM_search 123 = .ok (.iaload, 1) := by decide +kernel
theorem dM_search_124 : decode cM_search 124 = .ok (.ifCond .ne 23, 3) := by decide +kernel
theorem dM_search_127 : decode cM_search 127 = .ok (.aload_n 0, 1) := by decide +kernel
theorem dM_search_128 : decode cM_search 128 = .ok (.getfield 16, 3) := by decide +kernel
theorem dM_search_131 : decode cM_search 131 = .ok (.iload 4, 2) := by decide +kernel
theorem dM_search_133 : decode cM_search 133 = .ok (.iconst 1, 1) := by decide +kernel
theorem dM_search_134 : decode cM_search 134 = .ok (.iastore, 1) := by decide +kernel
theorem dM_search_135 : decode cM_search 135 = .ok (.aload_n 0, 1) := by decide +kernel
theorem dM_search_136 : decode cM_search 136 = .ok (.getfield 22, 3) := by decide +kernel
theorem dM_search_139 : decode cM_search 139 = .ok (.iload_n 1, 1) := by decide +kernel
theorem dM_search_140 : decode cM_search 140 = .ok (.iload 4, 2) := by decide +kernel
theorem dM_search_142 : decode cM_search 142 = .ok (.iastore, 1) := by decide +kernel
theorem dM_search_143 : decode cM_search 143 = .ok (.iload_n 1, 1) := by decide +kernel
theorem dM_search_144 : decode cM_search 144 = .ok (.iconst 1, 1) := by decide +kernel
theorem dM_search_145 : decode cM_search 145 = .ok (.iadd, 1) := by decide +kernel
theorem dM_search_146 : decode cM_search 146 = .ok (.istore_n 1, 1) := by decide +kernel
theorem dM_search_147 : decode cM_search 147 = .ok (.goto (-101), 3) := by decide +kernel
theorem dM_search_150 : decode cM_search 150 = .ok (.return_, 1) := by decide +kernel
theorem dM_spread_0 : decode cM_spread 0 = .ok (.iconst 0, 1) := by decide +kernel
theorem dM_spread_1 : decode cM_spread 1 = .ok (.istore_n 2, 1) := by decide +kernel
theorem dM_spread_2 : decode cM_spread 2 = .ok (.iload_n 2, 1) := by decide +kernel
theorem dM_spread_3 : decode cM_spread 3 = .ok (.aload_n 0, 1) := by decide +kernel
theorem dM_spread_4 : decode cM_spread 4 = .ok (.getfield 92, 3) := by decide +kernel
theorem dM_spread_7 : decode cM_spread 7 = .ok (.if_icmp .ge 61, 3) := by decide +kernel
theorem dM_spread_10 : decode cM_spread 10 = .ok (.iconst 0, 1) := by decide +kernel
theorem dM_spread_11 : decode cM_spread 11 = .ok (.istore_n 3, 1) := by decide +kernel
theorem dM_spread_12 : decode cM_spread 12 = .ok (.iload_n 3, 1) := by decide +kernel
theorem dM_spread_13 : decode cM_spread 13 = .ok (.aload_n 0, 1) := by decide +kernel
theorem dM_spread_14 : decode cM_spread 14 = .ok (.getfield 100, 3) := by decide +kernel
theorem dM_spread_17 : decode cM_spread 17 = .ok (.if_icmp .ge 45, 3) := by decide +kernel
theorem dM_spread_20 : decode cM_spread 20 = .ok (.aload_n 0, 1) := by decide +kernel
theorem dM_spread_21 : decode cM_spread 21 = .ok (.getfield 7, 3) := by decide +kernel
theorem dM_spread_24 : decode cM_spread 24 = .ok (.iload_n 3, 1) := by decide +kernel
theorem dM_spread_25 : decode cM_spread 25 = .ok (.iaload, 1) := by decide +kernel
theorem dM_spread_26 : decode cM_spread 26 = .ok (.iload_n 1, 1) := by decide +kernel
theorem dM_spread_27 : decode cM_spread 27 = .ok (.if_icmp .eq 29, 3) := by decide +kernel
theorem dM_spread_30 : decode cM_spread 30 = .ok (.aload_n 0, 1) := by decide +kernel
theorem dM_spread_31 : decode cM_spread 31 = .ok (.getfield 29, 3) := by decide +kernel
theorem dM_spread_34 : decode cM_spread 34 = .ok (.aload_n 0, 1) := by decide +kernel
theorem dM_spread_35 : decode cM_spread 35 = .ok (.getfield 13, 3) := by decide +kernel
theorem dM_spread_38 : decode cM_spread 38 = .ok (.iload_n 3, 1) := by decide +kernel
theorem dM_spread_39 : decode cM_spread 39 = .ok (.iaload, 1) := by decide +kernel
theorem dM_spread_40 : decode cM_spread 40 = .ok (.baload, 1) := by decide +kernel
theorem dM_spread_41 : decode cM_spread 41 = .ok (.ifCond .eq 15, 3) := by decide +kernel
theorem dM_spread_44 : decode cM_spread 44 = .ok (.aload_n 0, 1) := by decide +kernel
theorem dM_spread_45 : decode cM_spread 45 = .ok (.getfield 29, 3) := by decide +kernel
theorem dM_spread_48 : decode cM_spread 48 = .ok (.aload_n 0, 1) := by decide +kernel
theorem dM_spread_49 : decode cM_spread 49 = .ok (.getfield 7, 3) := by decide +kernel
theorem dM_spread_52 : decode cM_spread 52 = .ok (.iload_n 3, 1) := by decide +kernel
theorem dM_spread_53 : decode cM_spread 53 = .ok (.iaload, 1) := by decide +kernel
theorem dM_spread_54 : decode cM_spread 54 = .ok (.iconst 1, 1) := by decide +kernel
theorem dM_spread_55 : decode cM_spread 55 = .ok (.bastore, 1) := by decide +kernel
theorem dM_spread_56 : decode cM_spread 56 = .ok (.iinc 3 1, 3) := by decide +kernel
theorem dM_spread_59 : decode cM_spread 59 = .ok (.goto (-47), 3) := by decide +kernel
theorem dM_spread_62 : decode cM_spread 62 = .ok (.iinc 2 1, 3) := by decide +kernel
theorem dM_spread_65 : decode cM_spread 65 = .ok (.goto (-63), 3) := by decide +kernel
theorem dM_spread_68 : decode cM_spread 68 = .ok (.return_, 1) := by decide +kernel
theorem dM_connected_0 : decode cM_connected 0 = .ok (.iconst 1, 1) := by decide +kernel
theorem dM_connected_1 : decode cM_connected 1 = .ok (.istore_n 1, 1) := by decide +kernel
theorem dM_connected_2 : decode cM_connected 2 = .ok (.iconst 0, 1) := by decide +kernel
theorem dM_connected_3 : decode cM_connected 3 = .ok (.istore_n 2, 1) := by decide +kernel
theorem dM_connected_4 : decode cM_connected 4 = .ok (.iload_n 2, 1) := by decide +kernel
theorem dM_connected_5 : decode cM_connected 5 = .ok (.aload_n 0, 1) := by decide +kernel
theorem dM_connected_6 : decode cM_connected 6 = .ok (.getfield 92, 3) := by decide +kernel
theorem dM_connected_9 : decode cM_connected 9 = .ok (.if_icmp .ge 25, 3) := by decide +kernel
theorem dM_connected_12 : decode cM_connected 12 = .ok (.aload_n 0, 1) := by decide +kernel
theorem dM_connected_13 : decode cM_connected 13 = .ok (.getfield 29, 3) := by decide +kernel
theorem dM_connected_16 : decode cM_connected 16 = .ok (.iload_n 2, 1) := by decide +kernel
theorem dM_connected_17 : decode cM_connected 17 = .ok (.iload_n 2, 1) := by decide +kernel
theorem dM_connected_18 : decode cM_connected 18 = .ok (.iconst 1, 1) := by decide +kernel
theorem dM_connected_19 : decode cM_connected 19 = .ok (.if_icmp .ne 7, 3) := by decide +kernel
theorem dM_connected_22 : decode cM_connected 22 = .ok (.iconst 1, 1) := by decide +kernel
theorem dM_connected_23 : decode cM_connected 23 = .ok (.goto 4, 3) := by decide +kernel
theorem dM_connected_26 : decode cM_connected 26 = .ok (.iconst 0, 1) := by decide +kernel
theorem dM_connected_27 : decode cM_connected 27 = .ok (.bastore, 1) := by decide +kernel
theorem dM_connected_28 : decode cM_connected 28 = .ok (.iinc 2 1, 3) := by decide +kernel
theorem dM_connected_31 : decode cM_connected 31 = .ok (.goto (-27), 3) := by decide +kernel
theorem dM_connected_34 : decode cM_connected 34 = .ok (.aload_n 0, 1) := by decide +kernel
theorem dM_connected_35 : decode cM_connected 35 = .ok (.iconst (-1), 1) := by decide +kernel
theorem dM_connected_36 : decode cM_connected 36 = .ok (.invokevirtual 111, 3) := by decide +kernel
theorem dM_connected_39 : decode cM_connected 39 = .ok (.iconst 0, 1) := by decide +kernel
theorem dM_connected_40 : decode cM_connected 40 = .ok (.istore_n 2, 1) := by decide +kernel
theorem dM_connected_41 : decode cM_connected 41 = .ok (.iload_n 2, 1) := by decide +kernel
theorem dM_connected_42 : decode cM_connected 42 = .ok (.aload_n 0, 1) := by decide +kernel
theorem dM_connected_43 : decode cM_connected 43 = .ok (.getfield 92, 3) := by decide +kernel
theorem dM_connected_46 : decode cM_connected 46 = .ok (.if_icmp .ge 38, 3) := by decide +kernel
theorem dM_connected_49 : decode cM_connected 49 = .ok (.iload_n 1, 1) := by decide +kernel
theorem dM_connected_50 : decode cM_connected 50 = .ok (.ifCond .eq 26, 3) := by decide +kernel
theorem dM_connected_53 : decode cM_connected 53 = .ok (.aload_n 0, 1) := by decide +kernel
theorem dM_connected_54 : decode cM_connected 54 = .ok (.getfield 29, 3) := by decide +kernel
theorem dM_connected_57 : decode cM_connected 57 = .ok (.iload_n 2, 1) := by decide +kernel
theorem dM_connected_58 : decode cM_connected 58 = .ok (.baload, 1) := by decide +kernel
theorem dM_connected_59 : decode cM_connected 59 = .ok (.ifCond .eq 17, 3) := by decide +kernel
theorem dM_connected_62 : decode cM_connected 62 = .ok (.aload_n 0, 1) := by decide +kernel
theorem dM_connected_63 : decode cM_connected 63 = .ok (.getfield 16, 3) := by decide +kernel
theorem dM_connected_66 : decode cM_connected 66 = .ok (.iload_n 2, 1) := by decide +kernel
theorem dM_connected_67 : decode cM_connected 67 = .ok (.iaload, 1) := by decide +kernel
theorem dM_connected_68 : decode cM_connected 68 = .ok (.iconst 2, 1) := by decide +kernel
theorem dM_connected_69 : decode cM_connected 69 = .ok (.if_icmp .ne 7, 3) := by decide +kernel
theorem dM_connected_72 : decode cM_connected 72 = .ok (.iconst 1, 1) := by decide +kernel
theorem dM_connected_73 : decode cM_connected 73 = .ok (.goto 4, 3) := by decide +kernel
theorem dM_connected_76 : decode cM_connected 76 = .ok (.iconst 0, 1) := by decide +kernel
theorem dM_connected_77 : decode cM_connected 77 = .ok (.istore_n 1, 1) := by decide +kernel
theorem dM_connected_78 : decode cM_connected 78 = .ok (.iinc 2 1, 3) := by decide +kernel
theorem dM_connected_81 : decode cM_connected 81 = .ok (.goto (-40), 3) := by decide +kernel
theorem dM_connected_84 : decode cM_connected 84 = .ok (.iload_n 1, 1) := by decide +kernel
theorem dM_connected_85 : decode cM_connected 85 = .ok (.ireturn, 1) := by decide +kernel
theorem dM_deepen_0 : decode cM_deepen 0 = .ok (.iconst 0, 1) := by decide +kernel
theorem dM_deepen_1 : decode cM_deepen 1 = .ok (.istore_n 1, 1) := by decide +kernel
theorem dM_deepen_2 : decode cM_deepen 2 = .ok (.iload_n 1, 1) := by decide +kernel
theorem dM_deepen_3 : decode cM_deepen 3 = .ok (.aload_n 0, 1) := by decide +kernel
theorem dM_deepen_4 : decode cM_deepen 4 = .ok (.getfield 92, 3) := by decide +kernel
theorem dM_deepen_7 : decode cM_deepen 7 = .ok (.if_icmp .ge 16, 3) := by decide +kernel
theorem dM_deepen_10 : decode cM_deepen 10 = .ok (.aload_n 0, 1) := by decide +kernel
theorem dM_deepen_11 : decode cM_deepen 11 = .ok (.getfield 32, 3) := by decide +kernel
theorem dM_deepen_14 : decode cM_deepen 14 = .ok (.iload_n 1, 1) := by decide +kernel
theorem dM_deepen_15 : decode cM_deepen 15 = .ok (.iconst 0, 1) := by decide +kernel
theorem dM_deepen_16 : decode cM_deepen 16 = .ok (.iastore, 1) := by decide +kernel
theorem dM_deepen_17 : decode cM_deepen 17 = .ok (.iinc 1 1, 3) := by decide +kernel
theorem dM_deepen_20 : decode cM_deepen 20 = .ok (.goto (-18), 3) := by decide +kernel
theorem dM_deepen_23 : decode cM_deepen 23 = .ok (.iconst 0, 1) := by decide +kernel
theorem dM_deepen_24 : decode cM_deepen 24 = .ok (.istore_n 1, 1) := by decide +kernel
theorem dM_deepen_25 : decode cM_deepen 25 = .ok (.iload_n 1, 1) := by decide +kernel
theorem dM_deepen_26 : decode cM_deepen 26 = .ok (.aload_n 0, 1) := by decide +kernel
theorem dM_deepen_27 : decode cM_deepen 27 = .ok (.getfield 100, 3) := by decide +kernel
theorem dM_deepen_30 : decode cM_deepen 30 = .ok (.if_icmp .ge 127, 3) := by decide +kernel
theorem dM_deepen_33 : decode cM_deepen 33 = .ok (.aload_n 0, 1) := by decide +kernel
theorem dM_deepen_34 : decode cM_deepen 34 = .ok (.getfield 25, 3) := by decide +kernel
theorem dM_deepen_37 : decode cM_deepen 37 = .ok (.iload_n 1, 1) := by decide +kernel
theorem dM_deepen_38 : decode cM_deepen 38 = .ok (.baload, 1) := by decide +kernel
theorem dM_deepen_39 : decode cM_deepen 39 = .ok (.ifCond .eq 112, 3) := by decide +kernel
theorem dM_deepen_42 : decode cM_deepen 42 = .ok (.aload_n 0, 1) := by decide +kernel
theorem dM_deepen_43 : decode cM_deepen 43 = .ok (.getfield 13, 3) := by decide +kernel
theorem dM_deepen_46 : decode cM_deepen 46 = .ok (.iload_n 1, 1) := by decide +kernel
theorem dM_deepen_47 : decode cM_deepen 47 = .ok (.iaload, 1) := by decide +kernel
theorem dM_deepen_48 : decode cM_deepen 48 = .ok (.istore_n 2, 1) := by decide +kernel
theorem dM_deepen_49 : decode cM_deepen 49 = .ok (.iconst 0, 1) := by decide +kernel
theorem dM_deepen_50 : decode cM_deepen 50 = .ok (.istore_n 3, 1) := by decide +kernel
theorem dM_deepen_51 : decode cM_deepen 51 = .ok (.iload_n 3, 1) := by decide +kernel
theorem dM_deepen_52 : decode cM_deepen 52 = .ok (.aload_n 0, 1) := by decide +kernel
theorem dM_deepen_53 : decode cM_deepen 53 = .ok (.getfield 92, 3) := by decide +kernel
theorem dM_deepen_56 : decode cM_deepen 56 = .ok (.if_icmp .ge 35, 3) := by decide +kernel
theorem dM_deepen_59 : decode cM_deepen 59 = .ok (.aload_n 0, 1) := by decide +kernel
theorem dM_deepen_60 : decode cM_deepen 60 = .ok (.getfield 29, 3) := by decide +kernel
theorem dM_deepen_63 : decode cM_deepen 63 = .ok (.iload_n 3, 1) := by decide +kernel
theorem dM_deepen_64 : decode cM_deepen 64 = .ok (.iload_n 3, 1) := by decide +kernel
theorem dM_deepen_65 : decode cM_deepen 65 = .ok (.aload_n 0, 1) := by decide +kernel
theorem dM_deepen_66 : decode cM_deepen 66 = .ok (.getfield 7, 3) := by decide +kernel
theorem dM_deepen_69 : decode cM_deepen 69 = .ok (.iload_n 1, 1) := by decide +kernel
end
section
/-! rows that decode, M -/
theorem dM_deepen_70 : decode cM_deepen 70 = .ok (.iaload, 1) := by decide +kernel
theorem dM_deepen_71 : decode cM_deepen 71 = .ok (.if_icmp .ne 12, 3) := by decide +kernel
theorem dM_deepen_74 : decode cM_deepen 74 = .ok (.iload_n 3, 1) := by decide +kernel
theorem dM_deepen_75 : decode cM_deepen 75 = .ok (.iload_n 2, 1) := by decide +kernel
theorem dM_deepen_76 : decode cM_deepen 76 = .ok (.if_icmp .eq 7, 3) := by decide +kernel
theorem dM_deepen_79 : decode cM_deepen 79 = .ok (.iconst 1, 1) := by decide +kernel
theorem dM_deepen_80 : decode cM_deepen 80 = .ok (.goto 4, 3) := by decide +kernel
theorem dM_deepen_83 : decode cM_deepen 83 = .ok (.iconst 0, 1) := by decide +kernel
theorem dM_deepen_84 : decode cM_deepen 84 = .ok (.bastore, 1) := by decide +kernel
theorem dM_deepen_85 : decode cM_deepen 85 = .ok (.iinc 3 1, 3) := by decide +kernel
theorem dM_deepen_88 : decode cM_deepen 88 = .ok (.goto (-37), 3) := by decide +kernel
theorem dM_deepen_91 : decode cM_deepen 91 = .ok (.aload_n 0, 1) := by decide +kernel
theorem dM_deepen_92 : decode cM_deepen 92 = .ok (.iload_n 2, 1) := by decide +kernel
theorem dM_deepen_93 : decode cM_deepen 93 = .ok (.invokevirtual 111, 3) := by decide +kernel
theorem dM_deepen_96 : decode cM_deepen 96 = .ok (.aload_n 0, 1) := by decide +kernel
theorem dM_deepen_97 : decode cM_deepen 97 = .ok (.getfield 29, 3) := by decide +kernel
theorem dM_deepen_100 : decode cM_deepen 100 = .ok (.iload_n 2, 1) := by decide +kernel
theorem dM_deepen_101 : decode cM_deepen 101 = .ok (.iconst 1, 1) := by decide +kernel
theorem dM_deepen_102 : decode cM_deepen 102 = .ok (.bastore, 1) := by decide +kernel
theorem dM_deepen_103 : decode cM_deepen 103 = .ok (.iconst 0, 1) := by decide +kernel
theorem dM_deepen_104 : decode cM_deepen 104 = .ok (.istore_n 3, 1) := by decide +kernel
theorem dM_deepen_105 : decode cM_deepen 105 = .ok (.iload_n 3, 1) := by decide +kernel
theorem dM_deepen_106 : decode cM_deepen 106 = .ok (.aload_n 0, 1) := by decide +kernel
theorem dM_deepen_107 : decode cM_deepen 107 = .ok (.getfield 92, 3) := by decide +kernel
theorem dM_deepen_110 : decode cM_deepen 110 = .ok (.if_icmp .ge 41, 3) := by decide +kernel
theorem dM_deepen_113 : decode cM_deepen 113 = .ok (.aload_n 0, 1) := by decide +kernel
theorem dM_deepen_114 : decode cM_deepen 114 = .ok (.getfield 32, 3) := by decide +kernel
theorem dM_deepen_117 : decode cM_deepen 117 = .ok (.iload_n 3, 1) := by decide +kernel
theorem dM_deepen_118 : decode cM_deepen 118 = .ok (.aload_n 0, 1) := by decide +kernel
theorem dM_deepen_119 : decode cM_deepen 119 = .ok (.getfield 29, 3) := by decide +kernel
theorem dM_deepen_122 : decode cM_deepen 122 = .ok (.iload_n 3, 1) := by decide +kernel
theorem dM_deepen_123 : decode cM_deepen 123 = .ok (.baload, 1) := by decide +kernel
theorem dM_deepen_124 : decode cM_deepen 124 = .ok (.ifCond .eq 14, 3) := by decide +kernel
theorem dM_deepen_127 : decode cM_deepen 127 = .ok (.aload_n 0, 1) := by decide +kernel
theorem dM_deepen_128 : decode cM_deepen 128 = .ok (.getfield 32, 3) := by decide +kernel
theorem dM_deepen_131 : decode cM_deepen 131 = .ok (.iload_n 3, 1) := by decide +kernel
theorem dM_deepen_132 : decode cM_deepen 132 = .ok (.iaload, 1) := by decide +kernel
theorem dM_deepen_133 : decode cM_deepen 133 = .ok (.iconst 1, 1) := by decide +kernel
theorem dM_deepen_134 : decode cM_deepen 134 = .ok (.iadd, 1) := by decide +kernel
theorem dM_deepen_135 : decode cM_deepen 135 = .ok (.goto 9, 3) := by decide +kernel
theorem dM_deepen_138 : decode cM_deepen 138 = .ok (.aload_n 0, 1) := by decide +kernel
theorem dM_deepen_139 : decode cM_deepen 139 = .ok (.getfield 32, 3) := by decide +kernel
theorem dM_deepen_142 : decode cM_deepen 142 = .ok (.iload_n 3, 1) := by decide +kernel
theorem dM_deepen_143 : decode cM_deepen 143 = .ok (.iaload, 1) := by decide +kernel
theorem dM_deepen_144 : decode cM_deepen 144 = .ok (.iastore, 1) := by decide +kernel
theorem dM_deepen_145 : decode cM_deepen 145 = .ok (.iinc 3 1, 3) := by decide +kernel
theorem dM_deepen_148 : decode cM_deepen 148 = .ok (.goto (-43), 3) := by decide +kernel
theorem dM_deepen_151 : decode cM_deepen 151 = .ok (.iinc 1 1, 3) := by decide +kernel
theorem dM_deepen_154 : decode cM_deepen 154 = .ok (.goto (-129), 3) := by decide +kernel
theorem dM_deepen_157 : decode cM_deepen 157 = .ok (.return_, 1) := by decide +kernel
theorem dM_weight_0 : decode cM_weight 0 = .ok (.aload_n 0, 1) := by decide +kernel
theorem dM_weight_1 : decode cM_weight 1 = .ok (.getfield 32, 3) := by decide +kernel
theorem dM_weight_4 : decode cM_weight 4 = .ok (.aload_n 0, 1) := by decide +kernel
theorem dM_weight_5 : decode cM_weight 5 = .ok (.getfield 7, 3) := by decide +kernel
theorem dM_weight_8 : decode cM_weight 8 = .ok (.iload_n 1, 1) := by decide +kernel
theorem dM_weight_9 : decode cM_weight 9 = .ok (.iaload, 1) := by decide +kernel
theorem dM_weight_10 : decode cM_weight 10 = .ok (.iaload, 1) := by decide +kernel
theorem dM_weight_11 : decode cM_weight 11 = .ok (.istore_n 2, 1) := by decide +kernel
theorem dM_weight_12 : decode cM_weight 12 = .ok (.aload_n 0, 1) := by decide +kernel
theorem dM_weight_13 : decode cM_weight 13 = .ok (.getfield 32, 3) := by decide +kernel
theorem dM_weight_16 : decode cM_weight 16 = .ok (.aload_n 0, 1) := by decide +kernel
theorem dM_weight_17 : decode cM_weight 17 = .ok (.getfield 13, 3) := by decide +kernel
theorem dM_weight_20 : decode cM_weight 20 = .ok (.iload_n 1, 1) := by decide +kernel
theorem dM_weight_21 : decode cM_weight 21 = .ok (.iaload, 1) := by decide +kernel
theorem dM_weight_22 : decode cM_weight 22 = .ok (.iaload, 1) := by decide +kernel
theorem dM_weight_23 : decode cM_weight 23 = .ok (.istore_n 3, 1) := by decide +kernel
theorem dM_weight_24 : decode cM_weight 24 = .ok (.iload_n 2, 1) := by decide +kernel
theorem dM_weight_25 : decode cM_weight 25 = .ok (.iload_n 3, 1) := by decide +kernel
theorem dM_weight_26 : decode cM_weight 26 = .ok (.if_icmp .ge 7, 3) := by decide +kernel
theorem dM_weight_29 : decode cM_weight 29 = .ok (.iload_n 2, 1) := by decide +kernel
theorem dM_weight_30 : decode cM_weight 30 = .ok (.goto 4, 3) := by decide +kernel
theorem dM_weight_33 : decode cM_weight 33 = .ok (.iload_n 3, 1) := by decide +kernel
theorem dM_weight_34 : decode cM_weight 34 = .ok (.ireturn, 1) := by decide +kernel
theorem dM_sort_0 : decode cM_sort 0 = .ok (.iconst 0, 1) := by decide +kernel
theorem dM_sort_1 : decode cM_sort 1 = .ok (.istore_n 1, 1) := by decide +kernel
theorem dM_sort_2 : decode cM_sort 2 = .ok (.iload_n 1, 1) := by decide +kernel
theorem dM_sort_3 : decode cM_sort 3 = .ok (.aload_n 0, 1) := by decide +kernel
theorem dM_sort_4 : decode cM_sort 4 = .ok (.getfield 100, 3) := by decide +kernel
theorem dM_sort_7 : decode cM_sort 7 = .ok (.if_icmp .ge 76, 3) := by decide +kernel
theorem dM_sort_10 : decode cM_sort 10 = .ok (.iconst 0, 1) := by decide +kernel
theorem dM_sort_11 : decode cM_sort 11 = .ok (.istore_n 2, 1) := by decide +kernel
theorem dM_sort_12 : decode cM_sort 12 = .ok (.aload_n 0, 1) := by decide +kernel
theorem dM_sort_13 : decode cM_sort 13 = .ok (.iload_n 1, 1) := by decide +kernel
theorem dM_sort_14 : decode cM_sort 14 = .ok (.invokevirtual 115, 3) := by decide +kernel
theorem dM_sort_17 : decode cM_sort 17 = .ok (.istore_n 3, 1) := by decide +kernel
theorem dM_sort_18 : decode cM_sort 18 = .ok (.iconst 0, 1) := by decide +kernel
theorem dM_sort_19 : decode cM_sort 19 = .ok (.istore 4, 2) := by decide +kernel
theorem dM_sort_21 : decode cM_sort 21 = .ok (.iload 4, 2) := by decide +kernel
theorem dM_sort_23 : decode cM_sort 23 = .ok (.aload_n 0, 1) := by decide +kernel
theorem dM_sort_24 : decode cM_sort 24 = .ok (.getfield 100, 3) := by decide +kernel
theorem dM_sort_27 : decode cM_sort 27 = .ok (.if_icmp .ge 43, 3) := by decide +kernel
theorem dM_sort_30 : decode cM_sort 30 = .ok (.aload_n 0, 1) := by decide +kernel
theorem dM_sort_31 : decode cM_sort 31 = .ok (.iload 4, 2) := by decide +kernel
theorem dM_sort_33 : decode cM_sort 33 = .ok (.invokevirtual 115, 3) := by decide +kernel
theorem dM_sort_36 : decode cM_sort 36 = .ok (.istore 5, 2) := by decide +kernel
theorem dM_sort_38 : decode cM_sort 38 = .ok (.iload 5, 2) := by decide +kernel
theorem dM_sort_40 : decode cM_sort 40 = .ok (.iload_n 3, 1) := by decide +kernel
theorem dM_sort_41 : decode cM_sort 41 = .ok (.if_icmp .gt 15, 3) := by decide +kernel
theorem dM_sort_44 : decode cM_sort 44 = .ok (.iload 5, 2) := by decide +kernel
theorem dM_sort_46 : decode cM_sort 46 = .ok (.iload_n 3, 1) := by decide +kernel
theorem dM_sort_47 : decode cM_sort 47 = .ok (.if_icmp .ne 15, 3) := by decide +kernel
theorem dM_sort_50 : decode cM_sort 50 = .ok (.iload 4, 2) := by decide +kernel
theorem dM_sort_52 : decode cM_sort 52 = .ok (.iload_n 1, 1) := by decide +kernel
theorem dM_sort_53 : decode cM_sort 53 = .ok (.if_icmp .ge 9, 3) := by decide +kernel
theorem dM_sort_56 : decode cM_sort 56 = .ok (.iload_n 2, 1) := by decide +kernel
theorem dM_sort_57 : decode cM_sort 57 = .ok (.iconst 1, 1) := by decide +kernel
theorem dM_sort_58 : decode cM_sort 58 = .ok (.iadd, 1) := by decide +kernel
theorem dM_sort_59 : decode cM_sort 59 = .ok (.goto 4, 3) := by decide +kernel
theorem dM_sort_62 : decode cM_sort 62 = .ok (.iload_n 2, 1) := by decide +kernel
theorem dM_sort_63 : decode cM_sort 63 = .ok (.istore_n 2, 1) := by decide +kernel
theorem dM_sort_64 : decode cM_sort 64 = .ok (.iinc 4 1, 3) := by decide +kernel
theorem dM_sort_67 : decode cM_sort 67 = .ok (.goto (-46), 3) := by decide +kernel
theorem dM_sort_70 : decode cM_sort 70 = .ok (.aload_n 0, 1) := by decide +kernel
theorem dM_sort_71 : decode cM_sort 71 = .ok (.getfield 35, 3) := by decide +kernel
theorem dM_sort_74 : decode cM_sort 74 = .ok (.iload_n 2, 1) := by decide +kernel
theorem dM_sort_75 : decode cM_sort 75 = .ok (.iload_n 1, 1) := by decide +kernel
theorem dM_sort_76 : decode cM_sort 76 = .ok (.iastore, 1) := by decide +kernel
theorem dM_sort_77 : decode cM_sort 77 = .ok (.iinc 1 1, 3) := by decide +kernel
theorem dM_sort_80 : decode cM_sort 80 = .ok (.goto (-78), 3) := by decide +kernel
theorem dM_sort_83 : decode cM_sort 83 = .ok (.return_, 1) := by decide +kernel
theorem dM_joined_0 : decode cM_joined 0 = .ok (.iconst 0, 1) := by decide +kernel
theorem dM_joined_1 : decode cM_joined 1 = .ok (.istore_n 3, 1) := by decide +kernel
theorem dM_joined_2 : decode cM_joined 2 = .ok (.iload_n 3, 1) := by decide +kernel
theorem dM_joined_3 : decode cM_joined 3 = .ok (.aload_n 0, 1) := by decide +kernel
theorem dM_joined_4 : decode cM_joined 4 = .ok (.getfield 92, 3) := by decide +kernel
theorem dM_joined_7 : decode cM_joined 7 = .ok (.if_icmp .ge 25, 3) := by decide +kernel
theorem dM_joined_10 : decode cM_joined 10 = .ok (.aload_n 0, 1) := by decide +kernel
theorem dM_joined_11 : decode cM_joined 11 = .ok (.getfield 29, 3) := by decide +kernel
theorem dM_joined_14 : decode cM_joined 14 = .ok (.iload_n 3, 1) := by decide +kernel
theorem dM_joined_15 : decode cM_joined 15 = .ok (.iload_n 3, 1) := by decide +kernel
theorem dM_joined_16 : decode cM_joined 16 = .ok (.iload_n 1, 1) := by decide +kernel
theorem dM_joined_17 : decode cM_joined 17 = .ok (.if_icmp .ne 7, 3) := by decide +kernel
theorem dM_joined_20 : decode cM_joined 20 = .ok (.iconst 1, 1) := by decide +kernel
theorem dM_joined_21 : decode cM_joined 21 = .ok (.goto 4, 3) := by decide +kernel
theorem dM_joined_24 : decode cM_joined 24 = .ok (.iconst 0, 1) := by decide +kernel
theorem dM_joined_25 : decode cM_joined 25 = .ok (.bastore, 1) := by decide +kernel
theorem dM_joined_26 : decode cM_joined 26 = .ok (.iinc 3 1, 3) := by decide +kernel
theorem dM_joined_29 : decode cM_joined 29 = .ok (.goto (-27), 3) := by decide +kernel
theorem dM_joined_32 : decode cM_joined 32 = .ok (.iconst 0, 1) := by decide +kernel
theorem dM_joined_33 : decode cM_joined 33 = .ok (.istore_n 3, 1) := by decide +kernel
theorem dM_joined_34 : decode cM_joined 34 = .ok (.iload_n 3, 1) := by decide +kernel
theorem dM_joined_35 : decode cM_joined 35 = .ok (.aload_n 0, 1) := by decide +kernel
theorem dM_joined_36 : decode cM_joined 36 = .ok (.getfield 92, 3) := by decide +kernel
theorem dM_joined_39 : decode cM_joined 39 = .ok (.if_icmp .ge 133, 3) := by decide +kernel
theorem dM_joined_42 : decode cM_joined 42 = .ok (.iconst 0, 1) := by decide +kernel
theorem dM_joined_43 : decode cM_joined 43 = .ok (.istore 4, 2) := by decide +kernel
theorem dM_joined_45 : decode cM_joined 45 = .ok (.iload 4, 2) := by decide +kernel
theorem dM_joined_47 : decode cM_joined 47 = .ok (.aload_n 0, 1) := by decide +kernel
theorem dM_joined_48 : decode cM_joined 48 = .ok (.getfield 118, 3) := by decide +kernel
theorem dM_joined_51 : decode cM_joined 51 = .ok (.if_icmp .ge 74, 3) := by decide +kernel
theorem dM_joined_54 : decode cM_joined 54 = .ok (.aload_n 0, 1) := by decide +kernel
theorem dM_joined_55 : decode cM_joined 55 = .ok (.getfield 29, 3) := by decide +kernel
theorem dM_joined_58 : decode cM_joined 58 = .ok (.aload_n 0, 1) := by decide +kernel
theorem dM_joined_59 : decode cM_joined 59 = .ok (.getfield 62, 3) := by decide +kernel
theorem dM_joined_62 : decode cM_joined 62 = .ok (.iload 4, 2) := by decide +kernel
theorem dM_joined_64 : decode cM_joined 64 = .ok (.iaload, 1) := by decide +kernel
theorem dM_joined_65 : decode cM_joined 65 = .ok (.baload, 1) := by decide +kernel
theorem dM_joined_66 : decode cM_joined 66 = .ok (.ifCond .ne 18, 3) := by decide +kernel
theorem dM_joined_69 : decode cM_joined 69 = .ok (.aload_n 0, 1) := by decide +kernel
theorem dM_joined_70 : decode cM_joined 70 = .ok (.getfield 29, 3) := by decide +kernel
theorem dM_joined_73 : decode cM_joined 73 = .ok (.aload_n 0, 1) := by decide +kernel
theorem dM_joined_74 : decode cM_joined 74 = .ok (.getfield 65, 3) := by decide +kernel
theorem dM_joined_77 : decode cM_joined 77 = .ok (.iload 4, 2) := by decide +kernel
theorem dM_joined_79 : decode cM_joined 79 = .ok (.iaload, 1) := by decide +kernel
theorem dM_joined_80 : decode cM_joined 80 = .ok (.baload, 1) := by decide +kernel
theorem dM_joined_81 : decode cM_joined 81 = .ok (.ifCond .eq 7, 3) := by decide +kernel
theorem dM_joined_84 : decode cM_joined 84 = .ok (.iconst 1, 1) := by decide +kernel
theorem dM_joined_85 : decode cM_joined 85 = .ok (.goto 4, 3) := by decide +kernel
theorem dM_joined_88 : decode cM_joined 88 = .ok (.iconst 0, 1) := by decide +kernel
theorem dM_joined_89 : decode cM_joined 89 = .ok (.istore 5, 2) := by decide +kernel
theorem dM_joined_91 : decode cM_joined 91 = .ok (.aload_n 0, 1) := by decide +kernel
theorem dM_joined_92 : decode cM_joined 92 = .ok (.getfield 29, 3) := by decide +kernel
theorem dM_joined_95 : decode cM_joined 95 = .ok (.aload_n 0, 1) := by decide +kernel
theorem dM_joined_96 : decode cM_joined 96 = .ok (.getfield 62, 3) := by decide +kernel
theorem dM_joined_99 : decode cM_joined 99 = .ok (.iload 4, 2) := by decide +kernel
theorem dM_joined_101 : decode cM_joined 101 = .ok (.iaload, 1) := by decide +kernel
theorem dM_joined_102 : decode cM_joined 102 = .ok (.iload 5, 2) := by decide +kernel
theorem dM_joined_104 : decode cM_joined 104 = .ok (.bastore, 1) := by decide +kernel
theorem dM_joined_105 : decode cM_joined 105 = .ok (.aload_n 0, 1) := by decide +kernel
theorem dM_joined_106 : decode cM_joined 106 = .ok (.getfield 29, 3) := by decide +kernel
theorem dM_joined_109 : decode cM_joined 109 = .ok (.aload_n 0, 1) := by decide +kernel
theorem dM_joined_110 : decode cM_joined 110 = .ok (.getfield 65, 3) := by decide +kernel
theorem dM_joined_113 : decode cM_joined 113 = .ok (.iload 4, 2) := by decide +kernel
theorem dM_joined_115 : decode cM_joined 115 = .ok (.iaload, 1) := by decide +kernel
theorem dM_joined_116 : decode cM_joined 116 = .ok (.iload 5, 2) := by decide +kernel
theorem dM_joined_118 : decode cM_joined 118 = .ok (.bastore, 1) := by decide +kernel
theorem dM_joined_119 : decode cM_joined 119 = .ok (.iinc 4 1, 3) := by decide +kernel
theorem dM_joined_122 : decode cM_joined 122 = .ok (.goto (-77), 3) := by decide +kernel
theorem dM_joined_125 : decode cM_joined 125 = .ok (.aload_n 0, 1) := by decide +kernel
theorem dM_joined_126 : decode cM_joined 126 = .ok (.getfield 29, 3) := by decide +kernel
theorem dM_joined_129 : decode cM_joined 129 = .ok (.iconst 0, 1) := by decide +kernel
theorem dM_joined_130 : decode cM_joined 130 = .ok (.baload, 1) := by decide +kernel
theorem dM_joined_131 : decode cM_joined 131 = .ok (.ifCond .ne 12, 3) := by decide +kernel
theorem dM_joined_134 : decode cM_joined 134 = .ok (.aload_n 0, 1) := by decide +kernel
theorem dM_joined_135 : decode cM_joined 135 = .ok (.getfield 29, 3) := by decide +kernel
theorem dM_joined_138 : decode cM_joined 138 = .ok (.iconst 1, 1) := by decide +kernel
theorem dM_joined_139 : decode cM_joined 139 = .ok (.baload, 1) := by decide +kernel
theorem dM_joined_140 : decode cM_joined 140 = .ok (.ifCond .eq 7, 3) := by decide +kernel
theorem dM_joined_143 : decode cM_joined 143 = .ok (.iconst 1, 1) := by decide +kernel
theorem dM_joined_144 : decode cM_joined 144 = .ok (.goto 4, 3) := by decide +kernel
theorem dM_joined_147 : decode cM_joined 147 = .ok (.iconst 0, 1) := by decide +kernel
theorem dM_joined_148 : decode cM_joined 148 = .ok (.istore 4, 2) := by decide +kernel
theorem dM_joined_150 : decode cM_joined 150 = .ok (.aload_n 0, 1) := by decide +kernel
theorem dM_joined_151 : decode cM_joined 151 = .ok (.getfield 29, 3) := by decide +kernel
theorem dM_joined_154 : decode cM_joined 154 = .ok (.iconst 0, 1) := by decide +kernel
theorem dM_joined_155 : decode cM_joined 155 = .ok (.iload 4, 2) := by decide +kernel
theorem dM_joined_157 : decode cM_joined 157 = .ok (.bastore, 1) := by decide +kernel
theorem dM_joined_158 : decode cM_joined 158 = .ok (.aload_n 0, 1) := by decide +kernel
theorem dM_joined_159 : decode cM_joined 159 = .ok (.getfield 29, 3) := by decide +kernel
theorem dM_joined_162 : decode cM_joined 162 = .ok (.iconst 1, 1) := by decide +kernel
theorem dM_joined_163 : decode cM_joined 163 = .ok (.iload 4, 2) := by decide +kernel
theorem dM_joined_165 : decode cM_joined 165 = .ok (.bastore, 1) := by decide +kernel
theorem dM_joined_166 : decode cM_joined 166 = .ok (.iinc 3 1, 3) := by decide +kernel
theorem dM_joined_169 : decode cM_joined 169 = .ok (.goto (-135), 3) := by decide +kernel
theorem dM_joined_172 : decode cM_joined 172 = .ok (.aload_n 0, 1) := by decide +kernel
theorem dM_joined_173 : decode cM_joined 173 = .ok (.getfield 29, 3) := by decide +kernel
theorem dM_joined_176 : decode cM_joined 176 = .ok (.iload_n 2, 1) := by decide +kernel
theorem dM_joined_177 : decode cM_joined 177 = .ok (.baload, 1) := by decide +kernel
theorem dM_joined_178 : decode cM_joined 178 = .ok (.ireturn, 1) := by decide +kernel
theorem dM_join_0 : decode cM_join 0 = .ok (.aload_n 0, 1) := by decide +kernel
theorem dM_join_1 : decode cM_join 1 = .ok (.iload_n 1, 1) := by decide +kernel
theorem dM_join_2 : decode cM_join 2 = .ok (.iload_n 2, 1) := by decide +kernel
theorem dM_join_3 : decode cM_join 3 = .ok (.invokevirtual 121, 3) := by decide +kernel
theorem dM_join_6 : decode cM_join 6 = .ok (.istore_n 3, 1) := by decide +kernel
theorem dM_join_7 : decode cM_join 7 = .ok (.aload_n 0, 1) := by decide +kernel
theorem dM_join_8 : decode cM_join 8 = .ok (.getfield 62, 3) := by decide +kernel
theorem dM_join_11 : decode cM_join 11 = .ok (.aload_n 0, 1) := by decide +kernel
theorem dM_join_12 : decode cM_join 12 = .ok (.getfield 118, 3) := by decide +kernel
theorem dM_join_15 : decode cM_join 15 = .ok (.iload_n 1, 1) := by decide +kernel
theorem dM_join_16 : decode cM_join 16 = .ok (.iastore, 1) := by decide +kernel
theorem dM_join_17 : decode cM_join 17 = .ok (.aload_n 0, 1) := by decide +kernel
theorem dM_join_18 : decode cM_join 18 = .ok (.getfield 65, 3) := by decide +kernel
theorem dM_join_21 : decode cM_join 21 = .ok (.aload_n 0, 1) := by decide +kernel
theorem dM_join_22 : decode cM_join 22 = .ok (.getfield 118, 3) := by decide +kernel
theorem dM_join_25 : decode cM_join 25 = .ok (.iload_n 2, 1) := by decide +kernel
theorem dM_join_26 : decode cM_join 26 = .ok (.iastore, 1) := by decide +kernel
theorem dM_join_27 : decode cM_join 27 = .ok (.aload_n 0, 1) := by decide +kernel
theorem dM_join_28 : decode cM_join 28 = .ok (.aload_n 0, 1) := by decide +kernel
theorem dM_join_29 : decode cM_join 29 = .ok (.getfield 118, 3) := by decide +kernel
theorem dM_join_32 : decode cM_join 32 = .ok (.iconst 1, 1) := by decide +kernel
theorem dM_join_33 : decode cM_join 33 = .ok (.iadd, 1) := by decide +kernel
theorem dM_join_34 : decode cM_join 34 = .ok (.putfield 118, 3) := by decide +kernel
theorem dM_join_37 : decode cM_join 37 = .ok (.iload_n 3, 1) := by decide +kernel
theorem dM_join_38 : decode cM_join 38 = .ok (.ifCond .ne 7, 3) := by decide +kernel
theorem dM_join_41 : decode cM_join 41 = .ok (.iconst 1, 1) := by decide +kernel
theorem dM_join_42 : decode cM_join 42 = .ok (.goto 4, 3) := by decide +kernel
theorem dM_join_45 : decode cM_join 45 = .ok (.iconst 0, 1) := by decide +kernel
theorem dM_join_46 : decode cM_join 46 = .ok (.ireturn, 1) := by decide +kernel
theorem dM_growTrees_0 : decode cM_growTrees 0 = .ok (.aload_n 0, 1) := by decide +kernel
theorem dM_growTrees_1 : decode cM_growTrees 1 = .ok (.iconst 0, 1) := by decide +kernel
theorem dM_growTrees_2 : decode cM_growTrees 2 = .ok (.putfield 118, 3) := by decide +kernel
theorem dM_growTrees_5 : decode cM_growTrees 5 = .ok (.iconst 0, 1) := by decide +kernel
theorem dM_growTrees_6 : decode cM_growTrees 6 = .ok (.istore_n 1, 1) := by decide +kernel
theorem dM_growTrees_7 : decode cM_growTrees 7 = .ok (.iload_n 1, 1) := by decide +kernel
theorem dM_growTrees_8 : decode cM_growTrees 8 = .ok (.aload_n 0, 1) := by decide +kernel
theorem dM_growTrees_9 : decode cM_growTrees 9 = .ok (.getfield 100, 3) := by decide +kernel
theorem dM_growTrees_12 : decode cM_growTrees 12 = .ok (.if_icmp .ge 38, 3) := by decide +kernel
theorem dM_growTrees_15 : decode cM_growTrees 15 = .ok (.aload_n 0, 1) := by decide +kernel
theorem dM_growTrees_16 : decode cM_growTrees 16 = .ok (.getfield 35, 3) := by decide +kernel
theorem dM_growTrees_19 : decode cM_growTrees 19 = .ok (.iload_n 1, 1) := by decide +kernel
theorem dM_growTrees_20 : decode cM_growTrees 20 = .ok (.iaload, 1) := by decide +kernel
theorem dM_growTrees_21 : decode cM_growTrees 21 = .ok (.istore_n 2, 1) := by decide +kernel
theorem dM_growTrees_22 : decode cM_growTrees 22 = .ok (.aload_n 0, 1) := by decide +kernel
theorem dM_growTrees_23 : decode cM_growTrees 23 = .ok (.getfield 38, 3) := by decide +kernel
theorem dM_growTrees_26 : decode cM_growTrees 26 = .ok (.iload_n 2, 1) := by decide +kernel
theorem dM_growTrees_27 : decode cM_growTrees 27 = .ok (.aload_n 0, 1) := by decide +kernel
theorem dM_growTrees_28 : decode cM_growTrees 28 = .ok (.aload_n 0, 1) := by decide +kernel
theorem dM_growTrees_29 : decode cM_growTrees 29 = .ok (.getfield 7, 3) := by decide +kernel
theorem dM_growTrees_32 : decode cM_growTrees 32 = .ok (.iload_n 2, 1) := by decide +kernel
theorem dM_growTrees_33 : decode cM_growTrees 33 = .ok (.iaload, 1) := by decide +kernel
theorem dM_growTrees_34 : decode cM_growTrees 34 = .ok (.aload_n 0, 1) := by decide +kernel
theorem dM_growTrees_35 : decode cM_growTrees 35 = .ok (.getfield 13, 3) := by decide +kernel
theorem dM_growTrees_38 : decode cM_growTrees 38 = .ok (.iload_n 2, 1) := by decide +kernel
theorem dM_growTrees_39 : decode cM_growTrees 39 = .ok (.iaload, 1) := by decide +kernel
theorem dM_growTrees_40 : decode cM_growTrees 40 = .ok (.invokevirtual 125, 3) := by decide +kernel
theorem dM_growTrees_43 : decode cM_growTrees 43 = .ok (.bastore, 1) := by decide +kernel
theorem dM_growTrees_44 : decode cM_growTrees 44 = .ok (.iinc 1 1, 3) := by decide +kernel
theorem dM_growTrees_47 : decode cM_growTrees 47 = .ok (.goto (-40), 3) := by decide +kernel
theorem dM_growTrees_50 : decode cM_growTrees 50 = .ok (.aload_n 0, 1) := by decide +kernel
theorem dM_growTrees_51 : decode cM_growTrees 51 = .ok (.iconst 0, 1) := by decide +kernel
theorem dM_growTrees_52 : decode cM_growTrees 52 = .ok (.putfield 118, 3) := by decide +kernel
theorem dM_growTrees_55 : decode cM_growTrees 55 = .ok (.iconst 0, 1) := by decide +kernel
theorem dM_growTrees_56 : decode cM_growTrees 56 = .ok (.istore_n 1, 1) := by decide +kernel
theorem dM_growTrees_57 : decode cM_growTrees 57 = .ok (.iload_n 1, 1) := by decide +kernel
theorem dM_growTrees_58 : decode cM_growTrees 58 = .ok (.aload_n 0, 1) := by decide +kernel
theorem dM_growTrees_59 : decode cM_growTrees 59 = .ok (.getfield 100, 3) := by decide +kernel
theorem dM_growTrees_62 : decode cM_growTrees 62 = .ok (.if_icmp .ge 47, 3) := by decide +kernel
theorem dM_growTrees_65 : decode cM_growTrees 65 = .ok (.aload_n 0, 1) := by decide +kernel
theorem dM_growTrees_66 : decode cM_growTrees 66 = .ok (.getfield 35, 3) := by decide +kernel
theorem dM_growTrees_69 : decode cM_growTrees 69 = .ok (.iload_n 1, 1) := by decide +kernel
theorem dM_growTrees_70 : decode cM_growTrees 70 = .ok (.iaload, 1) := by decide +kernel
theorem dM_growTrees_71 : decode cM_growTrees 71 = .ok (.istore_n 2, 1) := by decide +kernel
theorem dM_growTrees_72 : decode cM_growTrees 72 = .ok (.aload_n 0, 1) := by decide +kernel
theorem dM_growTrees_73 : decode cM_growTrees 73 = .ok (.getfield 25, 3) := by decide +kernel
theorem dM_growTrees_76 : decode cM_growTrees 76 = .ok (.iload_n 2, 1) := by decide +kernel
theorem dM_growTrees_77 : decode cM_growTrees 77 = .ok (.baload, 1) := by decide +kernel
theorem dM_growTrees_78 : decode cM_growTrees 78 = .ok (.ifCond .ne 25, 3) := by decide +kernel
theorem dM_growTrees_81 : decode cM_growTrees 81 = .ok (.aload_n 0, 1) := by decide +kernel
theorem dM_growTrees_82 : decode cM_growTrees 82 = .ok (.getfield 53, 3) := by decide +kernel
theorem dM_growTrees_85 : decode cM_growTrees 85 = .ok (.iload_n 2, 1) := by decide +kernel
theorem dM_growTrees_86 : decode cM_growTrees 86 = .ok (.aload_n 0, 1) := by decide +kernel
theorem dM_growTrees_87 : decode cM_growTrees 87 = .ok (.aload_n 0, 1) := by decide +kernel
theorem dM_growTrees_88 : decode cM_growTrees 88 = .ok (.getfield 7, 3) := by decide +kernel
theorem dM_growTrees_91 : decode cM_growTrees 91 = .ok (.iload_n 2, 1) := by decide +kernel
theorem dM_growTrees_92 : decode cM_growTrees 92 = .ok (.iaload, 1) := by decide +kernel
theorem dM_growTrees_93 : decode cM_growTrees 93 = .ok (.aload_n 0, 1) := by decide +kernel
theorem dM_growTrees_94 : decode cM_growTrees 94 = .ok (.getfield 13, 3) := by decide +kernel
theorem dM_growTrees_97 : decode cM_growTrees 97 = .ok (.iload_n 2, 1) := by decide +kernel
theorem dM_growTrees_98 : decode cM_growTrees 98 = .ok (.iaload, 1) := by decide +kernel
theorem dM_growTrees_99 : decode cM_growTrees 99 = .ok (.invokevirtual 125, 3) := by decide +kernel
theorem dM_growTrees_102 : decode cM_growTrees 102 = .ok (.bastore, 1) := by decide +kernel
theorem dM_growTrees_103 : decode cM_growTrees 103 = .ok (.iinc 1 1, 3) := by decide +kernel
theorem dM_growTrees_106 : decode cM_growTrees 106 = .ok (.goto (-49), 3) := by decide +kernel
theorem dM_growTrees_109 : decode cM_growTrees 109 = .ok (.iconst 0, 1) := by decide +kernel
theorem dM_growTrees_110 : decode cM_growTrees 110 = .ok (.istore_n 1, 1) := by decide +kernel
theorem dM_growTrees_111 : decode cM_growTrees 111 = .ok (.iload_n 1, 1) := by decide +kernel
theorem dM_growTrees_112 : decode cM_growTrees 112 = .ok (.aload_n 0, 1) := by decide +kernel
theorem dM_growTrees_113 : decode cM_growTrees 113 = .ok (.getfield 100, 3) := by decide +kernel
theorem dM_growTrees_116 : decode cM_growTrees 116 = .ok (.if_icmp .ge 38, 3) := by decide +kernel
theorem dM_growTrees_119 : decode cM_growTrees 119 = .ok (.aload_n 0, 1) := by decide +kernel
theorem dM_growTrees_120 : decode cM_growTrees 120 = .ok (.getfield 25, 3) := by decide +kernel
theorem dM_growTrees_123 : decode cM_growTrees 123 = .ok (.iload_n 1, 1) := by decide +kernel
theorem dM_growTrees_124 : decode cM_growTrees 124 = .ok (.baload, 1) := by decide +kernel
theorem dM_growTrees_125 : decode cM_growTrees 125 = .ok (.ifCond .eq 23, 3) := by decide +kernel
theorem dM_growTrees_128 : decode cM_growTrees 128 = .ok (.aload_n 0, 1) := by decide +kernel
theorem dM_growTrees_129 : decode cM_growTrees 129 = .ok (.getfield 53, 3) := by decide +kernel
theorem dM_growTrees_132 : decode cM_growTrees 132 = .ok (.bipush 24, 2) := by decide +kernel
theorem dM_growTrees_134 : decode cM_growTrees 134 = .ok (.iload_n 1, 1) := by decide +kernel
theorem dM_growTrees_135 : decode cM_growTrees 135 = .ok (.iadd, 1) := by decide +kernel
theorem dM_growTrees_136 : decode cM_growTrees 136 = .ok (.aload_n 0, 1) := by decide +kernel
theorem dM_growTrees_137 : decode cM_growTrees 137 = .ok (.iconst 0, 1) := by decide +kernel
theorem dM_growTrees_138 : decode cM_growTrees 138 = .ok (.aload_n 0, 1) := by decide +kernel
theorem dM_growTrees_139 : decode cM_growTrees 139 = .ok (.getfield 13, 3) := by decide +kernel
theorem dM_growTrees_142 : decode cM_growTrees 142 = .ok (.iload_n 1, 1) := by decide +kernel
theorem dM_growTrees_143 : decode cM_growTrees 143 = .ok (.iaload, 1) := by decide +kernel
theorem dM_growTrees_144 : decode cM_growTrees 144 = .ok (.invokevirtual 125, 3) := by decide +kernel
theorem dM_growTrees_147 : decode cM_growTrees 147 = .ok (.bastore, 1) := by decide +kernel
theorem dM_growTrees_148 : decode cM_growTrees 148 = .ok (.iinc 1 1, 3) := by decide +kernel
theorem dM_growTrees_151 : decode cM_growTrees 151 = .ok (.goto (-40), 3) := by decide +kernel
theorem dM_growTrees_154 : decode cM_growTrees 154 = .ok (.iconst 0, 1) := by decide +kernel
theorem dM_growTrees_155 : decode cM_growTrees 155 = .ok (.istore_n 1, 1) := by decide +kernel
theorem dM_growTrees_156 : decode cM_growTrees 156 = .ok (.iload_n 1, 1) := by decide +kernel
theorem dM_growTrees_157 : decode cM_growTrees 157 = .ok (.aload_n 0, 1) := by decide +kernel
theorem dM_growTrees_158 : decode cM_growTrees 158 = .ok (.getfield 100, 3) := by decide +kernel
theorem dM_growTrees_161 : decode cM_growTrees 161 = .ok (.if_icmp .ge 35, 3) := by decide +kernel
theorem dM_growTrees_164 : decode cM_growTrees 164 = .ok (.aload_n 0, 1) := by decide +kernel
theorem dM_growTrees_165 : decode cM_growTrees 165 = .ok (.getfield 25, 3) := by decide +kernel
theorem dM_growTrees_168 : decode cM_growTrees 168 = .ok (.iload_n 1, 1) := by decide +kernel
theorem dM_growTrees_169 : decode cM_growTrees 169 = .ok (.baload, 1) := by decide +kernel
theorem dM_growTrees_170 : decode cM_growTrees 170 = .ok (.ifCond .eq 20, 3) := by decide +kernel
theorem dM_growTrees_173 : decode cM_growTrees 173 = .ok (.aload_n 0, 1) := by decide +kernel
theorem dM_growTrees_174 : decode cM_growTrees 174 = .ok (.getfield 53, 3) := by decide +kernel
theorem dM_growTrees_177 : decode cM_growTrees 177 = .ok (.iload_n 1, 1) := by decide +kernel
theorem dM_growTrees_178 : decode cM_growTrees 178 = .ok (.aload_n 0, 1) := by decide +kernel
theorem dM_growTrees_179 : decode cM_growTrees 179 = .ok (.aload_n 0, 1) := by decide +kernel
theorem dM_growTrees_180 : decode cM_growTrees 180 = .ok (.getfield 7, 3) := by decide +kernel
theorem dM_growTrees_183 : decode cM_growTrees 183 = .ok (.iload_n 1, 1) := by decide +kernel
theorem dM_growTrees_184 : decode cM_growTrees 184 = .ok (.iaload, 1) := by decide +kernel
theorem dM_growTrees_185 : decode cM_growTrees 185 = .ok (.iconst 1, 1) := by decide +kernel
theorem dM_growTrees_186 : decode cM_growTrees 186 = .ok (.invokevirtual 125, 3) := by decide +kernel
theorem dM_growTrees_189 : decode cM_growTrees 189 = .ok (.bastore, 1) := by decide +kernel
theorem dM_growTrees_190 : decode cM_growTrees 190 = .ok (.iinc 1 1, 3) := by decide +kernel
theorem dM_growTrees_193 : decode cM_growTrees 193 = .ok (.goto (-37), 3) := by decide +kernel
theorem dM_growTrees_196 : decode cM_growTrees 196 = .ok (.return_, 1) := by decide +kernel
theorem dM_layLinks_0 : decode cM_layLinks 0 = .ok (.iconst 0, 1) := by decide +kernel
theorem dM_layLinks_1 : decode cM_layLinks 1 = .ok (.istore_n 1, 1) := by decide +kernel
theorem dM_layLinks_2 : decode cM_layLinks 2 = .ok (.iload_n 1, 1) := by decide +kernel
theorem dM_layLinks_3 : decode cM_layLinks 3 = .ok (.bipush 24, 2) := by decide +kernel
theorem dM_layLinks_5 : decode cM_layLinks 5 = .ok (.if_icmp .ge 129, 3) := by decide +kernel
theorem dM_layLinks_8 : decode cM_layLinks 8 = .ok (.aload_n 0, 1) := by decide +kernel
theorem dM_layLinks_9 : decode cM_layLinks 9 = .ok (.getfield 41, 3) := by decide +kernel
theorem dM_layLinks_12 : decode cM_layLinks 12 = .ok (.iload_n 1, 1) := by decide +kernel
theorem dM_layLinks_13 : decode cM_layLinks 13 = .ok (.iload_n 1, 1) := by decide +kernel
theorem dM_layLinks_14 : decode cM_layLinks 14 = .ok (.aload_n 0, 1) := by decide +kernel
theorem dM_layLinks_15 : decode cM_layLinks 15 = .ok (.getfield 100, 3) := by decide +kernel
theorem dM_layLinks_18 : decode cM_layLinks 18 = .ok (.if_icmp .ge 7, 3) := by decide +kernel
theorem dM_layLinks_21 : decode cM_layLinks 21 = .ok (.iconst 1, 1) := by decide +kernel
theorem dM_layLinks_22 : decode cM_layLinks 22 = .ok (.goto 4, 3) := by decide +kernel
theorem dM_layLinks_25 : decode cM_layLinks 25 = .ok (.iconst 0, 1) := by decide +kernel
theorem dM_layLinks_26 : decode cM_layLinks 26 = .ok (.bastore, 1) := by decide +kernel
theorem dM_layLinks_27 : decode cM_layLinks 27 = .ok (.aload_n 0, 1) := by decide +kernel
theorem dM_layLinks_28 : decode cM_layLinks 28 = .ok (.getfield 41, 3) := by decide +kernel
theorem dM_layLinks_31 : decode cM_layLinks 31 = .ok (.bipush 24, 2) := by decide +kernel
theorem dM_layLinks_33 : decode cM_layLinks 33 = .ok (.iload_n 1, 1) := by decide +kernel
theorem dM_layLinks_34 : decode cM_layLinks 34 = .ok (.iadd, 1) := by decide +kernel
theorem dM_layLinks_35 : decode cM_layLinks 35 = .ok (.iload_n 1, 1) := by decide +kernel
theorem dM_layLinks_36 : decode cM_layLinks 36 = .ok (.aload_n 0, 1) := by decide +kernel
theorem dM_layLinks_37 : decode cM_layLinks 37 = .ok (.getfield 100, 3) := by decide +kernel
theorem dM_layLinks_40 : decode cM_layLinks 40 = .ok (.if_icmp .ge 16, 3) := by decide +kernel
theorem dM_layLinks_43 : decode cM_layLinks 43 = .ok (.aload_n 0, 1) := by decide +kernel
theorem dM_layLinks_44 : decode cM_layLinks 44 = .ok (.getfield 25, 3) := by decide +kernel
theorem dM_layLinks_47 : decode cM_layLinks 47 = .ok (.iload_n 1, 1) := by decide +kernel
theorem dM_layLinks_48 : decode cM_layLinks 48 = .ok (.baload, 1) := by decide +kernel
theorem dM_layLinks_49 : decode cM_layLinks 49 = .ok (.ifCond .eq 7, 3) := by decide +kernel
theorem dM_layLinks_52 : decode cM_layLinks 52 = .ok (.iconst 1, 1) := by decide +kernel
theorem dM_layLinks_53 : decode cM_layLinks 53 = .ok (.goto 4, 3) := by decide +kernel
theorem dM_layLinks_56 : decode cM_layLinks 56 = .ok (.iconst 0, 1) := by decide +kernel
theorem dM_layLinks_57 : decode cM_layLinks 57 = .ok (.bastore, 1) := by decide +kernel
theorem dM_layLinks_58 : decode cM_layLinks 58 = .ok (.iload_n 1, 1) := by decide +kernel
theorem dM_layLinks_59 : decode cM_layLinks 59 = .ok (.aload_n 0, 1) := by decide +kernel
theorem dM_layLinks_60 : decode cM_layLinks 60 = .ok (.getfield 100, 3) := by decide +kernel
theorem dM_layLinks_63 : decode cM_layLinks 63 = .ok (.if_icmp .ge 65, 3) := by decide +kernel
theorem dM_layLinks_66 : decode cM_layLinks 66 = .ok (.aload_n 0, 1) := by decide +kernel
theorem dM_layLinks_67 : decode cM_layLinks 67 = .ok (.getfield 44, 3) := by decide +kernel
theorem dM_layLinks_70 : decode cM_layLinks 70 = .ok (.iload_n 1, 1) := by decide +kernel
theorem dM_layLinks_71 : decode cM_layLinks 71 = .ok (.aload_n 0, 1) := by decide +kernel
theorem dM_layLinks_72 : decode cM_layLinks 72 = .ok (.getfield 7, 3) := by decide +kernel
theorem dM_layLinks_75 : decode cM_layLinks 75 = .ok (.iload_n 1, 1) := by decide +kernel
theorem dM_layLinks_76 : decode cM_layLinks 76 = .ok (.iaload, 1) := by decide +kernel
theorem dM_layLinks_77 : decode cM_layLinks 77 = .ok (.iastore, 1) := by decide +kernel
theorem dM_layLinks_78 : decode cM_layLinks 78 = .ok (.aload_n 0, 1) := by decide +kernel
theorem dM_layLinks_79 : decode cM_layLinks 79 = .ok (.getfield 47, 3) := by decide +kernel
theorem dM_layLinks_82 : decode cM_layLinks 82 = .ok (.iload_n 1, 1) := by decide +kernel
theorem dM_layLinks_83 : decode cM_layLinks 83 = .ok (.aload_n 0, 1) := by decide +kernel
theorem dM_layLinks_84 : decode cM_layLinks 84 = .ok (.getfield 25, 3) := by decide +kernel
theorem dM_layLinks_87 : decode cM_layLinks 87 = .ok (.iload_n 1, 1) := by decide +kernel
theorem dM_layLinks_88 : decode cM_layLinks 88 = .ok (.baload, 1) := by decide +kernel
theorem dM_layLinks_89 : decode cM_layLinks 89 = .ok (.ifCond .eq 7, 3) := by decide +kernel
theorem dM_layLinks_92 : decode cM_layLinks 92 = .ok (.iconst 1, 1) := by decide +kernel
theorem dM_layLinks_93 : decode cM_layLinks 93 = .ok (.goto 9, 3) := by decide +kernel
theorem dM_layLinks_96 : decode cM_layLinks 96 = .ok (.aload_n 0, 1) := by decide +kernel
theorem dM_layLinks_97 : decode cM_layLinks 97 = .ok (.getfield 13, 3) := by decide +kernel
theorem dM_layLinks_100 : decode cM_layLinks 100 = .ok (.iload_n 1, 1) := by decide +kernel
theorem dM_layLinks_101 : decode cM_layLinks 101 = .ok (.iaload, 1) := by decide +kernel
theorem dM_layLinks_102 : decode cM_layLinks 102 = .ok (.iastore, 1) := by decide +kernel
theorem dM_layLinks_103 : decode cM_layLinks 103 = .ok (.aload_n 0, 1) := by decide +kernel
theorem dM_layLinks_104 : decode cM_layLinks 104 = .ok (.getfield 44, 3) := by decide +kernel
theorem dM_layLinks_107 : decode cM_layLinks 107 = .ok (.bipush 24, 2) := by decide +kernel
theorem dM_layLinks_109 : decode cM_layLinks 109 = .ok (.iload_n 1, 1) := by decide +kernel
theorem dM_layLinks_110 : decode cM_layLinks 110 = .ok (.iadd, 1) := by decide +kernel
theorem dM_layLinks_111 : decode cM_layLinks 111 = .ok (.iconst 0, 1) := by decide +kernel
theorem dM_layLinks_112 : decode cM_layLinks 112 = .ok (.iastore, 1) := by decide +kernel
theorem dM_layLinks_113 : decode cM_layLinks 113 = .ok (.aload_n 0, 1) := by decide +kernel
theorem dM_layLinks_114 : decode cM_layLinks 114 = .ok (.getfield 47, 3) := by decide +kernel
theorem dM_layLinks_117 : decode cM_layLinks 117 = .ok (.bipush 24, 2) := by decide +kernel
theorem dM_layLinks_119 : decode cM_layLinks 119 = .ok (.iload_n 1, 1) := by decide +kernel
theorem dM_layLinks_120 : decode cM_layLinks 120 = .ok (.iadd, 1) := by decide +kernel
theorem dM_layLinks_121 : decode cM_layLinks 121 = .ok (.aload_n 0, 1) := by decide +kernel
theorem dM_layLinks_122 : decode cM_layLinks 122 = .ok (.getfield 13, 3) := by decide +kernel
theorem dM_layLinks_125 : decode cM_layLinks 125 = .ok (.iload_n 1, 1) := by decide +kernel
theorem dM_layLinks_126 : decode cM_layLinks 126 = .ok (.iaload, 1) := by decide +kernel
theorem dM_layLinks_127 : decode cM_layLinks 127 = .ok (.iastore, 1) := by decide +kernel
theorem dM_layLinks_128 : decode cM_layLinks 128 = .ok (.iinc 1 1, 3) := by decide +kernel
theorem dM_layLinks_131 : decode cM_layLinks 131 = .ok (.goto (-129), 3) := by decide +kernel
theorem dM_layLinks_134 : decode cM_layLinks 134 = .ok (.iconst 0, 1) := by decide +kernel
theorem dM_layLinks_135 : decode cM_layLinks 135 = .ok (.istore_n 1, 1) := by decide +kernel
theorem dM_layLinks_136 : decode cM_layLinks 136 = .ok (.iload_n 1, 1) := by decide +kernel
theorem dM_layLinks_137 : decode cM_layLinks 137 = .ok (.aload_n 0, 1) := by decide +kernel
theorem dM_layLinks_138 : decode cM_layLinks 138 = .ok (.getfield 92, 3) := by decide +kernel
theorem dM_layLinks_141 : decode cM_layLinks 141 = .ok (.if_icmp .ge 25, 3) := by decide +kernel
end
section
/-! rows that decode, M -/
theorem dM_layLinks_144 : decode cM_layLinks 144 = .ok (.aload_n 0, 1) := by decide +kernel
theorem dM_layLinks_145 : decode cM_layLinks 145 = .ok (.getfield 50, 3) := by decide +kernel
theorem dM_layLinks_148 : decode cM_layLinks 148 = .ok (.iload_n 1, 1) := by decide +kernel
theorem dM_layLinks_149 : decode cM_layLinks 149 = .ok (.iload_n 1, 1) := by decide +kernel
theorem dM_layLinks_150 : decode cM_layLinks 150 = .ok (.iconst 1, 1) := by decide +kernel
theorem dM_layLinks_151 : decode cM_layLinks 151 = .ok (.if_icmp .ne 7, 3) := by decide +kernel
theorem dM_layLinks_154 : decode cM_layLinks 154 = .ok (.iconst 1, 1) := by decide +kernel
theorem dM_layLinks_155 : decode cM_layLinks 155 = .ok (.goto 4, 3) := by decide +kernel
theorem dM_layLinks_158 : decode cM_layLinks 158 = .ok (.iconst 0, 1) := by decide +kernel
theorem dM_layLinks_159 : decode cM_layLinks 159 = .ok (.iastore, 1) := by decide +kernel
theorem dM_layLinks_160 : decode cM_layLinks 160 = .ok (.iinc 1 1, 3) := by decide +kernel
theorem dM_layLinks_163 : decode cM_layLinks 163 = .ok (.goto (-27), 3) := by decide +kernel
theorem dM_layLinks_166 : decode cM_layLinks 166 = .ok (.iconst 0, 1) := by decide +kernel
theorem dM_layLinks_167 : decode cM_layLinks 167 = .ok (.istore_n 1, 1) := by decide +kernel
theorem dM_layLinks_168 : decode cM_layLinks 168 = .ok (.iload_n 1, 1) := by decide +kernel
theorem dM_layLinks_169 : decode cM_layLinks 169 = .ok (.aload_n 0, 1) := by decide +kernel
theorem dM_layLinks_170 : decode cM_layLinks 170 = .ok (.getfield 92, 3) := by decide +kernel
theorem dM_layLinks_173 : decode cM_layLinks 173 = .ok (.if_icmp .ge 47, 3) := by decide +kernel
theorem dM_layLinks_176 : decode cM_layLinks 176 = .ok (.iconst 0, 1) := by decide +kernel
theorem dM_layLinks_177 : decode cM_layLinks 177 = .ok (.istore_n 2, 1) := by decide +kernel
theorem dM_layLinks_178 : decode cM_layLinks 178 = .ok (.iload_n 2, 1) := by decide +kernel
theorem dM_layLinks_179 : decode cM_layLinks 179 = .ok (.aload_n 0, 1) := by decide +kernel
theorem dM_layLinks_180 : decode cM_layLinks 180 = .ok (.getfield 92, 3) := by decide +kernel
theorem dM_layLinks_183 : decode cM_layLinks 183 = .ok (.if_icmp .ge 31, 3) := by decide +kernel
theorem dM_layLinks_186 : decode cM_layLinks 186 = .ok (.aload_n 0, 1) := by decide +kernel
theorem dM_layLinks_187 : decode cM_layLinks 187 = .ok (.getfield 50, 3) := by decide +kernel
theorem dM_layLinks_190 : decode cM_layLinks 190 = .ok (.iload_n 2, 1) := by decide +kernel
theorem dM_layLinks_191 : decode cM_layLinks 191 = .ok (.iload_n 2, 1) := by decide +kernel
theorem dM_layLinks_192 : decode cM_layLinks 192 = .ok (.iconst 1, 1) := by decide +kernel
theorem dM_layLinks_193 : decode cM_layLinks 193 = .ok (.if_icmp .ne 7, 3) := by decide +kernel
theorem dM_layLinks_196 : decode cM_layLinks 196 = .ok (.iconst 1, 1) := by decide +kernel
theorem dM_layLinks_197 : decode cM_layLinks 197 = .ok (.goto 10, 3) := by decide +kernel
theorem dM_layLinks_200 : decode cM_layLinks 200 = .ok (.aload_n 0, 1) := by decide +kernel
theorem dM_layLinks_201 : decode cM_layLinks 201 = .ok (.iload_n 2, 1) := by decide +kernel
theorem dM_layLinks_202 : decode cM_layLinks 202 = .ok (.bipush 48, 2) := by decide +kernel
theorem dM_layLinks_204 : decode cM_layLinks 204 = .ok (.invokevirtual 128, 3) := by decide +kernel
theorem dM_layLinks_207 : decode cM_layLinks 207 = .ok (.iastore, 1) := by decide +kernel
theorem dM_layLinks_208 : decode cM_layLinks 208 = .ok (.iinc 2 1, 3) := by decide +kernel
theorem dM_layLinks_211 : decode cM_layLinks 211 = .ok (.goto (-33), 3) := by decide +kernel
theorem dM_layLinks_214 : decode cM_layLinks 214 = .ok (.iinc 1 1, 3) := by decide +kernel
theorem dM_layLinks_217 : decode cM_layLinks 217 = .ok (.goto (-49), 3) := by decide +kernel
theorem dM_layLinks_220 : decode cM_layLinks 220 = .ok (.return_, 1) := by decide +kernel
theorem dM_rowsBefore_0 : decode cM_rowsBefore 0 = .ok (.iconst 0, 1) := by decide +kernel
theorem dM_rowsBefore_1 : decode cM_rowsBefore 1 = .ok (.istore_n 3, 1) := by decide +kernel
theorem dM_rowsBefore_2 : decode cM_rowsBefore 2 = .ok (.iconst 0, 1) := by decide +kernel
theorem dM_rowsBefore_3 : decode cM_rowsBefore 3 = .ok (.istore 4, 2) := by decide +kernel
theorem dM_rowsBefore_5 : decode cM_rowsBefore 5 = .ok (.iload 4, 2) := by decide +kernel
theorem dM_rowsBefore_7 : decode cM_rowsBefore 7 = .ok (.iload_n 2, 1) := by decide +kernel
theorem dM_rowsBefore_8 : decode cM_rowsBefore 8 = .ok (.if_icmp .ge 45, 3) := by decide +kernel
theorem dM_rowsBefore_11 : decode cM_rowsBefore 11 = .ok (.aload_n 0, 1) := by decide +kernel
theorem dM_rowsBefore_12 : decode cM_rowsBefore 12 = .ok (.getfield 41, 3) := by decide +kernel
theorem dM_rowsBefore_15 : decode cM_rowsBefore 15 = .ok (.iload 4, 2) := by decide +kernel
theorem dM_rowsBefore_17 : decode cM_rowsBefore 17 = .ok (.baload, 1) := by decide +kernel
theorem dM_rowsBefore_18 : decode cM_rowsBefore 18 = .ok (.ifCond .eq 29, 3) := by decide +kernel
theorem dM_rowsBefore_21 : decode cM_rowsBefore 21 = .ok (.aload_n 0, 1) := by decide +kernel
theorem dM_rowsBefore_22 : decode cM_rowsBefore 22 = .ok (.getfield 44, 3) := by decide +kernel
theorem dM_rowsBefore_25 : decode cM_rowsBefore 25 = .ok (.iload 4, 2) := by decide +kernel
theorem dM_rowsBefore_27 : decode cM_rowsBefore 27 = .ok (.iaload, 1) := by decide +kernel
theorem dM_rowsBefore_28 : decode cM_rowsBefore 28 = .ok (.iload_n 1, 1) := by decide +kernel
theorem dM_rowsBefore_29 : decode cM_rowsBefore 29 = .ok (.if_icmp .ne 18, 3) := by decide +kernel
theorem dM_rowsBefore_32 : decode cM_rowsBefore 32 = .ok (.iload_n 3, 1) := by decide +kernel
theorem dM_rowsBefore_33 : decode cM_rowsBefore 33 = .ok (.aload_n 0, 1) := by decide +kernel
theorem dM_rowsBefore_34 : decode cM_rowsBefore 34 = .ok (.getfield 50, 3) := by decide +kernel
theorem dM_rowsBefore_37 : decode cM_rowsBefore 37 = .ok (.aload_n 0, 1) := by decide +kernel
theorem dM_rowsBefore_38 : decode cM_rowsBefore 38 = .ok (.getfield 47, 3) := by decide +kernel
theorem dM_rowsBefore_41 : decode cM_rowsBefore 41 = .ok (.iload 4, 2) := by decide +kernel
theorem dM_rowsBefore_43 : decode cM_rowsBefore 43 = .ok (.iaload, 1) := by decide +kernel
theorem dM_rowsBefore_44 : decode cM_rowsBefore 44 = .ok (.iaload, 1) := by decide +kernel
theorem dM_rowsBefore_45 : decode cM_rowsBefore 45 = .ok (.iadd, 1) := by decide +kernel
theorem dM_rowsBefore_46 : decode cM_rowsBefore 46 = .ok (.istore_n 3, 1) := by decide +kernel
theorem dM_rowsBefore_47 : decode cM_rowsBefore 47 = .ok (.iinc 4 1, 3) := by decide +kernel
theorem dM_rowsBefore_50 : decode cM_rowsBefore 50 = .ok (.goto (-45), 3) := by decide +kernel
theorem dM_rowsBefore_53 : decode cM_rowsBefore 53 = .ok (.iload_n 3, 1) := by decide +kernel
theorem dM_rowsBefore_54 : decode cM_rowsBefore 54 = .ok (.ireturn, 1) := by decide +kernel
theorem dM_value_0 : decode cM_value 0 = .ok (.aload_n 0, 1) := by decide +kernel
theorem dM_value_1 : decode cM_value 1 = .ok (.aload_n 0, 1) := by decide +kernel
theorem dM_value_2 : decode cM_value 2 = .ok (.getfield 44, 3) := by decide +kernel
theorem dM_value_5 : decode cM_value 5 = .ok (.iload_n 1, 1) := by decide +kernel
theorem dM_value_6 : decode cM_value 6 = .ok (.iaload, 1) := by decide +kernel
theorem dM_value_7 : decode cM_value 7 = .ok (.iload_n 1, 1) := by decide +kernel
theorem dM_value_8 : decode cM_value 8 = .ok (.invokevirtual 128, 3) := by decide +kernel
theorem dM_value_11 : decode cM_value 11 = .ok (.ireturn, 1) := by decide +kernel
theorem dM_findBases_0 : decode cM_findBases 0 = .ok (.iconst 0, 1) := by decide +kernel
theorem dM_findBases_1 : decode cM_findBases 1 = .ok (.istore_n 1, 1) := by decide +kernel
theorem dM_findBases_2 : decode cM_findBases 2 = .ok (.iload_n 1, 1) := by decide +kernel
theorem dM_findBases_3 : decode cM_findBases 3 = .ok (.aload_n 0, 1) := by decide +kernel
theorem dM_findBases_4 : decode cM_findBases 4 = .ok (.getfield 92, 3) := by decide +kernel
theorem dM_findBases_7 : decode cM_findBases 7 = .ok (.if_icmp .ge 32, 3) := by decide +kernel
theorem dM_findBases_10 : decode cM_findBases 10 = .ok (.aload_n 0, 1) := by decide +kernel
theorem dM_findBases_11 : decode cM_findBases 11 = .ok (.getfield 56, 3) := by decide +kernel
theorem dM_findBases_14 : decode cM_findBases 14 = .ok (.iload_n 1, 1) := by decide +kernel
theorem dM_findBases_15 : decode cM_findBases 15 = .ok (.iload_n 1, 1) := by decide +kernel
theorem dM_findBases_16 : decode cM_findBases 16 = .ok (.iconst 2, 1) := by decide +kernel
theorem dM_findBases_17 : decode cM_findBases 17 = .ok (.if_icmp .ge 7, 3) := by decide +kernel
theorem dM_findBases_20 : decode cM_findBases 20 = .ok (.iconst 1, 1) := by decide +kernel
theorem dM_findBases_21 : decode cM_findBases 21 = .ok (.goto 4, 3) := by decide +kernel
theorem dM_findBases_24 : decode cM_findBases 24 = .ok (.iconst 0, 1) := by decide +kernel
theorem dM_findBases_25 : decode cM_findBases 25 = .ok (.bastore, 1) := by decide +kernel
theorem dM_findBases_26 : decode cM_findBases 26 = .ok (.aload_n 0, 1) := by decide +kernel
theorem dM_findBases_27 : decode cM_findBases 27 = .ok (.getfield 59, 3) := by decide +kernel
theorem dM_findBases_30 : decode cM_findBases 30 = .ok (.iload_n 1, 1) := by decide +kernel
theorem dM_findBases_31 : decode cM_findBases 31 = .ok (.iconst 0, 1) := by decide +kernel
theorem dM_findBases_32 : decode cM_findBases 32 = .ok (.iastore, 1) := by decide +kernel
theorem dM_findBases_33 : decode cM_findBases 33 = .ok (.iinc 1 1, 3) := by decide +kernel
theorem dM_findBases_36 : decode cM_findBases 36 = .ok (.goto (-34), 3) := by decide +kernel
theorem dM_findBases_39 : decode cM_findBases 39 = .ok (.iconst 0, 1) := by decide +kernel
theorem dM_findBases_40 : decode cM_findBases 40 = .ok (.istore_n 1, 1) := by decide +kernel
theorem dM_findBases_41 : decode cM_findBases 41 = .ok (.iload_n 1, 1) := by decide +kernel
theorem dM_findBases_42 : decode cM_findBases 42 = .ok (.aload_n 0, 1) := by decide +kernel
theorem dM_findBases_43 : decode cM_findBases 43 = .ok (.getfield 92, 3) := by decide +kernel
theorem dM_findBases_46 : decode cM_findBases 46 = .ok (.if_icmp .ge 150, 3) := by decide +kernel
theorem dM_findBases_49 : decode cM_findBases 49 = .ok (.iconst 0, 1) := by decide +kernel
theorem dM_findBases_50 : decode cM_findBases 50 = .ok (.istore_n 2, 1) := by decide +kernel
theorem dM_findBases_51 : decode cM_findBases 51 = .ok (.iload_n 2, 1) := by decide +kernel
theorem dM_findBases_52 : decode cM_findBases 52 = .ok (.bipush 48, 2) := by decide +kernel
theorem dM_findBases_54 : decode cM_findBases 54 = .ok (.if_icmp .ge 136, 3) := by decide +kernel
theorem dM_findBases_57 : decode cM_findBases 57 = .ok (.aload_n 0, 1) := by decide +kernel
theorem dM_findBases_58 : decode cM_findBases 58 = .ok (.getfield 41, 3) := by decide +kernel
theorem dM_findBases_61 : decode cM_findBases 61 = .ok (.iload_n 2, 1) := by decide +kernel
theorem dM_findBases_62 : decode cM_findBases 62 = .ok (.baload, 1) := by decide +kernel
theorem dM_findBases_63 : decode cM_findBases 63 = .ok (.ifCond .eq 121, 3) := by decide +kernel
theorem dM_findBases_66 : decode cM_findBases 66 = .ok (.aload_n 0, 1) := by decide +kernel
theorem dM_findBases_67 : decode cM_findBases 67 = .ok (.getfield 53, 3) := by decide +kernel
theorem dM_findBases_70 : decode cM_findBases 70 = .ok (.iload_n 2, 1) := by decide +kernel
theorem dM_findBases_71 : decode cM_findBases 71 = .ok (.baload, 1) := by decide +kernel
theorem dM_findBases_72 : decode cM_findBases 72 = .ok (.ifCond .eq 112, 3) := by decide +kernel
theorem dM_findBases_75 : decode cM_findBases 75 = .ok (.aload_n 0, 1) := by decide +kernel
theorem dM_findBases_76 : decode cM_findBases 76 = .ok (.getfield 44, 3) := by decide +kernel
theorem dM_findBases_79 : decode cM_findBases 79 = .ok (.iload_n 2, 1) := by decide +kernel
theorem dM_findBases_80 : decode cM_findBases 80 = .ok (.iaload, 1) := by decide +kernel
theorem dM_findBases_81 : decode cM_findBases 81 = .ok (.istore_n 3, 1) := by decide +kernel
theorem dM_findBases_82 : decode cM_findBases 82 = .ok (.aload_n 0, 1) := by decide +kernel
theorem dM_findBases_83 : decode cM_findBases 83 = .ok (.getfield 47, 3) := by decide +kernel
theorem dM_findBases_86 : decode cM_findBases 86 = .ok (.iload_n 2, 1) := by decide +kernel
theorem dM_findBases_87 : decode cM_findBases 87 = .ok (.iaload, 1) := by decide +kernel
theorem dM_findBases_88 : decode cM_findBases 88 = .ok (.istore 4, 2) := by decide +kernel
theorem dM_findBases_90 : decode cM_findBases 90 = .ok (.aload_n 0, 1) := by decide +kernel
theorem dM_findBases_91 : decode cM_findBases 91 = .ok (.getfield 56, 3) := by decide +kernel
theorem dM_findBases_94 : decode cM_findBases 94 = .ok (.iload_n 3, 1) := by decide +kernel
theorem dM_findBases_95 : decode cM_findBases 95 = .ok (.baload, 1) := by decide +kernel
theorem dM_findBases_96 : decode cM_findBases 96 = .ok (.ifCond .eq 43, 3) := by decide +kernel
theorem dM_findBases_99 : decode cM_findBases 99 = .ok (.aload_n 0, 1) := by decide +kernel
theorem dM_findBases_100 : decode cM_findBases 100 = .ok (.getfield 56, 3) := by decide +kernel
theorem dM_findBases_103 : decode cM_findBases 103 = .ok (.iload 4, 2) := by decide +kernel
theorem dM_findBases_105 : decode cM_findBases 105 = .ok (.baload, 1) := by decide +kernel
theorem dM_findBases_106 : decode cM_findBases 106 = .ok (.ifCond .ne 33, 3) := by decide +kernel
theorem dM_findBases_109 : decode cM_findBases 109 = .ok (.aload_n 0, 1) := by decide +kernel
theorem dM_findBases_110 : decode cM_findBases 110 = .ok (.getfield 59, 3) := by decide +kernel
theorem dM_findBases_113 : decode cM_findBases 113 = .ok (.iload 4, 2) := by decide +kernel
theorem dM_findBases_115 : decode cM_findBases 115 = .ok (.aload_n 0, 1) := by decide +kernel
theorem dM_findBases_116 : decode cM_findBases 116 = .ok (.getfield 59, 3) := by decide +kernel
theorem dM_findBases_119 : decode cM_findBases 119 = .ok (.iload_n 3, 1) := by decide +kernel
theorem dM_findBases_120 : decode cM_findBases 120 = .ok (.iaload, 1) := by decide +kernel
theorem dM_findBases_121 : decode cM_findBases 121 = .ok (.aload_n 0, 1) := by decide +kernel
theorem dM_findBases_122 : decode cM_findBases 122 = .ok (.iload_n 2, 1) := by decide +kernel
theorem dM_findBases_123 : decode cM_findBases 123 = .ok (.invokevirtual 132, 3) := by decide +kernel
theorem dM_findBases_126 : decode cM_findBases 126 = .ok (.iadd, 1) := by decide +kernel
theorem dM_findBases_127 : decode cM_findBases 127 = .ok (.iastore, 1) := by decide +kernel
theorem dM_findBases_128 : decode cM_findBases 128 = .ok (.aload_n 0, 1) := by decide +kernel
theorem dM_findBases_129 : decode cM_findBases 129 = .ok (.getfield 56, 3) := by decide +kernel
theorem dM_findBases_132 : decode cM_findBases 132 = .ok (.iload 4, 2) := by decide +kernel
theorem dM_findBases_134 : decode cM_findBases 134 = .ok (.iconst 1, 1) := by decide +kernel
theorem dM_findBases_135 : decode cM_findBases 135 = .ok (.bastore, 1) := by decide +kernel
theorem dM_findBases_136 : decode cM_findBases 136 = .ok (.goto 48, 3) := by decide +kernel
theorem dM_findBases_139 : decode cM_findBases 139 = .ok (.aload_n 0, 1) := by decide +kernel
theorem dM_findBases_140 : decode cM_findBases 140 = .ok (.getfield 56, 3) := by decide +kernel
theorem dM_findBases_143 : decode cM_findBases 143 = .ok (.iload 4, 2) := by decide +kernel
theorem dM_findBases_145 : decode cM_findBases 145 = .ok (.baload, 1) := by decide +kernel
theorem dM_findBases_146 : decode cM_findBases 146 = .ok (.ifCond .eq 38, 3) := by decide +kernel
theorem dM_findBases_149 : decode cM_findBases 149 = .ok (.aload_n 0, 1) := by decide +kernel
theorem dM_findBases_150 : decode cM_findBases 150 = .ok (.getfield 56, 3) := by decide +kernel
theorem dM_findBases_153 : decode cM_findBases 153 = .ok (.iload_n 3, 1) := by decide +kernel
theorem dM_findBases_154 : decode cM_findBases 154 = .ok (.baload, 1) := by decide +kernel
theorem dM_findBases_155 : decode cM_findBases 155 = .ok (.ifCond .ne 29, 3) := by decide +kernel
theorem dM_findBases_158 : decode cM_findBases 158 = .ok (.aload_n 0, 1) := by decide +kernel
theorem dM_findBases_159 : decode cM_findBases 159 = .ok (.getfield 59, 3) := by decide +kernel
theorem dM_findBases_162 : decode cM_findBases 162 = .ok (.iload_n 3, 1) := by decide +kernel
theorem dM_findBases_163 : decode cM_findBases 163 = .ok (.aload_n 0, 1) := by decide +kernel
theorem dM_findBases_164 : decode cM_findBases 164 = .ok (.getfield 59, 3) := by decide +kernel
theorem dM_findBases_167 : decode cM_findBases 167 = .ok (.iload 4, 2) := by decide +kernel
theorem dM_findBases_169 : decode cM_findBases 169 = .ok (.iaload, 1) := by decide +kernel
theorem dM_findBases_170 : decode cM_findBases 170 = .ok (.aload_n 0, 1) := by decide +kernel
theorem dM_findBases_171 : decode cM_findBases 171 = .ok (.iload_n 2, 1) := by decide +kernel
theorem dM_findBases_172 : decode cM_findBases 172 = .ok (.invokevirtual 132, 3) := by decide +kernel
theorem dM_findBases_175 : decode cM_findBases 175 = .ok (.isub, 1) := by decide +kernel
theorem dM_findBases_176 : decode cM_findBases 176 = .ok (.iastore, 1) := by decide +kernel
theorem dM_findBases_177 : decode cM_findBases 177 = .ok (.aload_n 0, 1) := by decide +kernel
theorem dM_findBases_178 : decode cM_findBases 178 = .ok (.getfield 56, 3) := by decide +kernel
theorem dM_findBases_181 : decode cM_findBases 181 = .ok (.iload_n 3, 1) := by decide +kernel
theorem dM_findBases_182 : decode cM_findBases 182 = .ok (.iconst 1, 1) := by decide +kernel
theorem dM_findBases_183 : decode cM_findBases 183 = .ok (.bastore, 1) := by decide +kernel
theorem dM_findBases_184 : decode cM_findBases 184 = .ok (.iinc 2 1, 3) := by decide +kernel
theorem dM_findBases_187 : decode cM_findBases 187 = .ok (.goto (-136), 3) := by decide +kernel
theorem dM_findBases_190 : decode cM_findBases 190 = .ok (.iinc 1 1, 3) := by decide +kernel
theorem dM_findBases_193 : decode cM_findBases 193 = .ok (.goto (-152), 3) := by decide +kernel
theorem dM_findBases_196 : decode cM_findBases 196 = .ok (.return_, 1) := by decide +kernel
theorem dM_added_0 : decode cM_added 0 = .ok (.aload_n 0, 1) := by decide +kernel
theorem dM_added_1 : decode cM_added 1 = .ok (.iload_n 1, 1) := by decide +kernel
theorem dM_added_2 : decode cM_added 2 = .ok (.invokevirtual 132, 3) := by decide +kernel
theorem dM_added_5 : decode cM_added 5 = .ok (.aload_n 0, 1) := by decide +kernel
theorem dM_added_6 : decode cM_added 6 = .ok (.getfield 59, 3) := by decide +kernel
theorem dM_added_9 : decode cM_added 9 = .ok (.aload_n 0, 1) := by decide +kernel
theorem dM_added_10 : decode cM_added 10 = .ok (.getfield 44, 3) := by decide +kernel
theorem dM_added_13 : decode cM_added 13 = .ok (.iload_n 1, 1) := by decide +kernel
theorem dM_added_14 : decode cM_added 14 = .ok (.iaload, 1) := by decide +kernel
theorem dM_added_15 : decode cM_added 15 = .ok (.iaload, 1) := by decide +kernel
theorem dM_added_16 : decode cM_added 16 = .ok (.iadd, 1) := by decide +kernel
theorem dM_added_17 : decode cM_added 17 = .ok (.aload_n 0, 1) := by decide +kernel
theorem dM_added_18 : decode cM_added 18 = .ok (.getfield 59, 3) := by decide +kernel
theorem dM_added_21 : decode cM_added 21 = .ok (.aload_n 0, 1) := by decide +kernel
theorem dM_added_22 : decode cM_added 22 = .ok (.getfield 47, 3) := by decide +kernel
theorem dM_added_25 : decode cM_added 25 = .ok (.iload_n 1, 1) := by decide +kernel
theorem dM_added_26 : decode cM_added 26 = .ok (.iaload, 1) := by decide +kernel
theorem dM_added_27 : decode cM_added 27 = .ok (.iaload, 1) := by decide +kernel
theorem dM_added_28 : decode cM_added 28 = .ok (.isub, 1) := by decide +kernel
theorem dM_added_29 : decode cM_added 29 = .ok (.ireturn, 1) := by decide +kernel
theorem dM_linkAfter_0 : decode cM_linkAfter 0 = .ok (.iload_n 2, 1) := by decide +kernel
theorem dM_linkAfter_1 : decode cM_linkAfter 1 = .ok (.iconst 1, 1) := by decide +kernel
theorem dM_linkAfter_2 : decode cM_linkAfter 2 = .ok (.iadd, 1) := by decide +kernel
theorem dM_linkAfter_3 : decode cM_linkAfter 3 = .ok (.istore_n 3, 1) := by decide +kernel
theorem dM_linkAfter_4 : decode cM_linkAfter 4 = .ok (.iload_n 3, 1) := by decide +kernel
theorem dM_linkAfter_5 : decode cM_linkAfter 5 = .ok (.bipush 48, 2) := by decide +kernel
theorem dM_linkAfter_7 : decode cM_linkAfter 7 = .ok (.if_icmp .ge 29, 3) := by decide +kernel
theorem dM_linkAfter_10 : decode cM_linkAfter 10 = .ok (.aload_n 0, 1) := by decide +kernel
theorem dM_linkAfter_11 : decode cM_linkAfter 11 = .ok (.getfield 41, 3) := by decide +kernel
theorem dM_linkAfter_14 : decode cM_linkAfter 14 = .ok (.iload_n 3, 1) := by decide +kernel
theorem dM_linkAfter_15 : decode cM_linkAfter 15 = .ok (.baload, 1) := by decide +kernel
theorem dM_linkAfter_16 : decode cM_linkAfter 16 = .ok (.ifCond .eq 13, 3) := by decide +kernel
theorem dM_linkAfter_19 : decode cM_linkAfter 19 = .ok (.aload_n 0, 1) := by decide +kernel
theorem dM_linkAfter_20 : decode cM_linkAfter 20 = .ok (.getfield 44, 3) := by decide +kernel
theorem dM_linkAfter_23 : decode cM_linkAfter 23 = .ok (.iload_n 3, 1) := by decide +kernel
theorem dM_linkAfter_24 : decode cM_linkAfter 24 = .ok (.iaload, 1) := by decide +kernel
theorem dM_linkAfter_25 : decode cM_linkAfter 25 = .ok (.iload_n 1, 1) := by decide +kernel
theorem dM_linkAfter_26 : decode cM_linkAfter 26 = .ok (.if_icmp .eq 10, 3) := by decide +kernel
theorem dM_linkAfter_29 : decode cM_linkAfter 29 = .ok (.iload_n 3, 1) := by decide +kernel
theorem dM_linkAfter_30 : decode cM_linkAfter 30 = .ok (.iconst 1, 1) := by decide +kernel
theorem dM_linkAfter_31 : decode cM_linkAfter 31 = .ok (.iadd, 1) := by decide +kernel
theorem dM_linkAfter_32 : decode cM_linkAfter 32 = .ok (.istore_n 3, 1) := by decide +kernel
theorem dM_linkAfter_33 : decode cM_linkAfter 33 = .ok (.goto (-29), 3) := by decide +kernel
theorem dM_linkAfter_36 : decode cM_linkAfter 36 = .ok (.iload_n 3, 1) := by decide +kernel
theorem dM_linkAfter_37 : decode cM_linkAfter 37 = .ok (.ireturn, 1) := by decide +kernel
theorem dM_complete_0 : decode cM_complete 0 = .ok (.aload_n 0, 1) := by decide +kernel
theorem dM_complete_1 : decode cM_complete 1 = .ok (.getfield 135, 3) := by decide +kernel
theorem dM_complete_4 : decode cM_complete 4 = .ok (.ifCond .ne 7, 3) := by decide +kernel
theorem dM_complete_7 : decode cM_complete 7 = .ok (.iconst 0, 1) := by decide +kernel
theorem dM_complete_8 : decode cM_complete 8 = .ok (.goto 19, 3) := by decide +kernel
theorem dM_complete_11 : decode cM_complete 11 = .ok (.aload_n 0, 1) := by decide +kernel
theorem dM_complete_12 : decode cM_complete 12 = .ok (.getfield 47, 3) := by decide +kernel
theorem dM_complete_15 : decode cM_complete 15 = .ok (.aload_n 0, 1) := by decide +kernel
theorem dM_complete_16 : decode cM_complete 16 = .ok (.getfield 74, 3) := by decide +kernel
theorem dM_complete_19 : decode cM_complete 19 = .ok (.aload_n 0, 1) := by decide +kernel
theorem dM_complete_20 : decode cM_complete 20 = .ok (.getfield 135, 3) := by decide +kernel
theorem dM_complete_23 : decode cM_complete 23 = .ok (.iconst 1, 1) := by decide +kernel
theorem dM_complete_24 : decode cM_complete 24 = .ok (.isub, 1) := by decide +kernel
theorem dM_complete_25 : decode cM_complete 25 = .ok (.iaload, 1) := by decide +kernel
theorem dM_complete_26 : decode cM_complete 26 = .ok (.iaload, 1) := by decide +kernel
theorem dM_complete_27 : decode cM_complete 27 = .ok (.istore_n 1, 1) := by decide +kernel
theorem dM_complete_28 : decode cM_complete 28 = .ok (.iload_n 1, 1) := by decide +kernel
theorem dM_complete_29 : decode cM_complete 29 = .ok (.iconst 1, 1) := by decide +kernel
theorem dM_complete_30 : decode cM_complete 30 = .ok (.if_icmp .eq 40, 3) := by decide +kernel
theorem dM_complete_33 : decode cM_complete 33 = .ok (.aload_n 0, 1) := by decide +kernel
theorem dM_complete_34 : decode cM_complete 34 = .ok (.iload_n 1, 1) := by decide +kernel
theorem dM_complete_35 : decode cM_complete 35 = .ok (.iconst (-1), 1) := by decide +kernel
theorem dM_complete_36 : decode cM_complete 36 = .ok (.invokevirtual 138, 3) := by decide +kernel
theorem dM_complete_39 : decode cM_complete 39 = .ok (.istore_n 2, 1) := by decide +kernel
theorem dM_complete_40 : decode cM_complete 40 = .ok (.aload_n 0, 1) := by decide +kernel
theorem dM_complete_41 : decode cM_complete 41 = .ok (.getfield 74, 3) := by decide +kernel
theorem dM_complete_44 : decode cM_complete 44 = .ok (.aload_n 0, 1) := by decide +kernel
theorem dM_complete_45 : decode cM_complete 45 = .ok (.getfield 135, 3) := by decide +kernel
theorem dM_complete_48 : decode cM_complete 48 = .ok (.iload_n 2, 1) := by decide +kernel
theorem dM_complete_49 : decode cM_complete 49 = .ok (.iastore, 1) := by decide +kernel
theorem dM_complete_50 : decode cM_complete 50 = .ok (.aload_n 0, 1) := by decide +kernel
theorem dM_complete_51 : decode cM_complete 51 = .ok (.aload_n 0, 1) := by decide +kernel
theorem dM_complete_52 : decode cM_complete 52 = .ok (.getfield 135, 3) := by decide +kernel
theorem dM_complete_55 : decode cM_complete 55 = .ok (.iconst 1, 1) := by decide +kernel
theorem dM_complete_56 : decode cM_complete 56 = .ok (.iadd, 1) := by decide +kernel
theorem dM_complete_57 : decode cM_complete 57 = .ok (.putfield 135, 3) := by decide +kernel
theorem dM_complete_60 : decode cM_complete 60 = .ok (.aload_n 0, 1) := by decide +kernel
theorem dM_complete_61 : decode cM_complete 61 = .ok (.getfield 47, 3) := by decide +kernel
theorem dM_complete_64 : decode cM_complete 64 = .ok (.iload_n 2, 1) := by decide +kernel
theorem dM_complete_65 : decode cM_complete 65 = .ok (.iaload, 1) := by decide +kernel
theorem dM_complete_66 : decode cM_complete 66 = .ok (.istore_n 1, 1) := by decide +kernel
theorem dM_complete_67 : decode cM_complete 67 = .ok (.goto (-39), 3) := by decide +kernel
theorem dM_complete_70 : decode cM_complete 70 = .ok (.return_, 1) := by decide +kernel
theorem dM_advance_0 : decode cM_advance 0 = .ok (.aload_n 0, 1) := by decide +kernel
theorem dM_advance_1 : decode cM_advance 1 = .ok (.getfield 135, 3) := by decide +kernel
theorem dM_advance_4 : decode cM_advance 4 = .ok (.ifCond .le 64, 3) := by decide +kernel
theorem dM_advance_7 : decode cM_advance 7 = .ok (.aload_n 0, 1) := by decide +kernel
theorem dM_advance_8 : decode cM_advance 8 = .ok (.getfield 74, 3) := by decide +kernel
theorem dM_advance_11 : decode cM_advance 11 = .ok (.aload_n 0, 1) := by decide +kernel
theorem dM_advance_12 : decode cM_advance 12 = .ok (.getfield 135, 3) := by decide +kernel
theorem dM_advance_15 : decode cM_advance 15 = .ok (.iconst 1, 1) := by decide +kernel
theorem dM_advance_16 : decode cM_advance 16 = .ok (.isub, 1) := by decide +kernel
theorem dM_advance_17 : decode cM_advance 17 = .ok (.iaload, 1) := by decide +kernel
theorem dM_advance_18 : decode cM_advance 18 = .ok (.istore_n 1, 1) := by decide +kernel
theorem dM_advance_19 : decode cM_advance 19 = .ok (.aload_n 0, 1) := by decide +kernel
theorem dM_advance_20 : decode cM_advance 20 = .ok (.aload_n 0, 1) := by decide +kernel
theorem dM_advance_21 : decode cM_advance 21 = .ok (.getfield 44, 3) := by decide +kernel
theorem dM_advance_24 : decode cM_advance 24 = .ok (.iload_n 1, 1) := by decide +kernel
theorem dM_advance_25 : decode cM_advance 25 = .ok (.iaload, 1) := by decide +kernel
theorem dM_advance_26 : decode cM_advance 26 = .ok (.iload_n 1, 1) := by decide +kernel
theorem dM_advance_27 : decode cM_advance 27 = .ok (.invokevirtual 138, 3) := by decide +kernel
theorem dM_advance_30 : decode cM_advance 30 = .ok (.istore_n 2, 1) := by decide +kernel
theorem dM_advance_31 : decode cM_advance 31 = .ok (.iload_n 2, 1) := by decide +kernel
theorem dM_advance_32 : decode cM_advance 32 = .ok (.bipush 48, 2) := by decide +kernel
theorem dM_advance_34 : decode cM_advance 34 = .ok (.if_icmp .ge 21, 3) := by decide +kernel
theorem dM_advance_37 : decode cM_advance 37 = .ok (.aload_n 0, 1) := by decide +kernel
theorem dM_advance_38 : decode cM_advance 38 = .ok (.getfield 74, 3) := by decide +kernel
theorem dM_advance_41 : decode cM_advance 41 = .ok (.aload_n 0, 1) := by decide +kernel
theorem dM_advance_42 : decode cM_advance 42 = .ok (.getfield 135, 3) := by decide +kernel
theorem dM_advance_45 : decode cM_advance 45 = .ok (.iconst 1, 1) := by decide +kernel
theorem dM_advance_46 : decode cM_advance 46 = .ok (.isub, 1) := by decide +kernel
theorem dM_advance_47 : decode cM_advance 47 = .ok (.iload_n 2, 1) := by decide +kernel
theorem dM_advance_48 : decode cM_advance 48 = .ok (.iastore, 1) := by decide +kernel
theorem dM_advance_49 : decode cM_advance 49 = .ok (.aload_n 0, 1) := by decide +kernel
theorem dM_advance_50 : decode cM_advance 50 = .ok (.invokevirtual 141, 3) := by decide +kernel
theorem dM_advance_53 : decode cM_advance 53 = .ok (.iconst 1, 1) := by decide +kernel
theorem dM_advance_54 : decode cM_advance 54 = .ok (.ireturn, 1) := by decide +kernel
theorem dM_advance_55 : decode cM_advance 55 = .ok (.aload_n 0, 1) := by decide +kernel
theorem dM_advance_56 : decode cM_advance 56 = .ok (.aload_n 0, 1) := by decide +kernel
theorem dM_advance_57 : decode cM_advance 57 = .ok (.getfield 135, 3) := by decide +kernel
theorem dM_advance_60 : decode cM_advance 60 = .ok (.iconst 1, 1) := by decide +kernel
theorem dM_advance_61 : decode cM_advance 61 = .ok (.isub, 1) := by decide +kernel
theorem dM_advance_62 : decode cM_advance 62 = .ok (.putfield 135, 3) := by decide +kernel
theorem dM_advance_65 : decode cM_advance 65 = .ok (.goto (-65), 3) := by decide +kernel
theorem dM_advance_68 : decode cM_advance 68 = .ok (.iconst 0, 1) := by decide +kernel
theorem dM_advance_69 : decode cM_advance 69 = .ok (.ireturn, 1) := by decide +kernel
theorem dM_listWays_0 : decode cM_listWays 0 = .ok (.aload_n 0, 1) := by decide +kernel
theorem dM_listWays_1 : decode cM_listWays 1 = .ok (.iconst 0, 1) := by decide +kernel
theorem dM_listWays_2 : decode cM_listWays 2 = .ok (.putfield 144, 3) := by decide +kernel
theorem dM_listWays_5 : decode cM_listWays 5 = .ok (.aload_n 0, 1) := by decide +kernel
theorem dM_listWays_6 : decode cM_listWays 6 = .ok (.iconst 0, 1) := by decide +kernel
theorem dM_listWays_7 : decode cM_listWays 7 = .ok (.putfield 135, 3) := by decide +kernel
theorem dM_listWays_10 : decode cM_listWays 10 = .ok (.aload_n 0, 1) := by decide +kernel
theorem dM_listWays_11 : decode cM_listWays 11 = .ok (.invokevirtual 141, 3) := by decide +kernel
theorem dM_listWays_14 : decode cM_listWays 14 = .ok (.iconst 1, 1) := by decide +kernel
theorem dM_listWays_15 : decode cM_listWays 15 = .ok (.istore_n 1, 1) := by decide +kernel
theorem dM_listWays_16 : decode cM_listWays 16 = .ok (.iload_n 1, 1) := by decide +kernel
theorem dM_listWays_17 : decode cM_listWays 17 = .ok (.ifCond .eq 80, 3) := by decide +kernel
theorem dM_listWays_20 : decode cM_listWays 20 = .ok (.aload_n 0, 1) := by decide +kernel
theorem dM_listWays_21 : decode cM_listWays 21 = .ok (.getfield 144, 3) := by decide +kernel
theorem dM_listWays_24 : decode cM_listWays 24 = .ok (.sipush 200, 3) := by decide +kernel
theorem dM_listWays_27 : decode cM_listWays 27 = .ok (.if_icmp .ge 70, 3) := by decide +kernel
theorem dM_listWays_30 : decode cM_listWays 30 = .ok (.aload_n 0, 1) := by decide +kernel
theorem dM_listWays_31 : decode cM_listWays 31 = .ok (.getfield 68, 3) := by decide +kernel
theorem dM_listWays_34 : decode cM_listWays 34 = .ok (.aload_n 0, 1) := by decide +kernel
theorem dM_listWays_35 : decode cM_listWays 35 = .ok (.getfield 144, 3) := by decide +kernel
theorem dM_listWays_38 : decode cM_listWays 38 = .ok (.aload_n 0, 1) := by decide +kernel
theorem dM_listWays_39 : decode cM_listWays 39 = .ok (.getfield 135, 3) := by decide +kernel
theorem dM_listWays_42 : decode cM_listWays 42 = .ok (.iastore, 1) := by decide +kernel
theorem dM_listWays_43 : decode cM_listWays 43 = .ok (.iconst 0, 1) := by decide +kernel
theorem dM_listWays_44 : decode cM_listWays 44 = .ok (.istore_n 2, 1) := by decide +kernel
theorem dM_listWays_45 : decode cM_listWays 45 = .ok (.iload_n 2, 1) := by decide +kernel
theorem dM_listWays_46 : decode cM_listWays 46 = .ok (.aload_n 0, 1) := by decide +kernel
theorem dM_listWays_47 : decode cM_listWays 47 = .ok (.getfield 135, 3) := by decide +kernel
theorem dM_listWays_50 : decode cM_listWays 50 = .ok (.if_icmp .ge 29, 3) := by decide +kernel
theorem dM_listWays_53 : decode cM_listWays 53 = .ok (.aload_n 0, 1) := by decide +kernel
theorem dM_listWays_54 : decode cM_listWays 54 = .ok (.getfield 71, 3) := by decide +kernel
theorem dM_listWays_57 : decode cM_listWays 57 = .ok (.bipush 16, 2) := by decide +kernel
theorem dM_listWays_59 : decode cM_listWays 59 = .ok (.aload_n 0, 1) := by decide +kernel
theorem dM_listWays_60 : decode cM_listWays 60 = .ok (.getfield 144, 3) := by decide +kernel
theorem dM_listWays_63 : decode cM_listWays 63 = .ok (.imul, 1) := by decide +kernel
theorem dM_listWays_64 : decode cM_listWays 64 = .ok (.iload_n 2, 1) := by decide +kernel
theorem dM_listWays_65 : decode cM_listWays 65 = .ok (.iadd, 1) := by decide +kernel
theorem dM_listWays_66 : decode cM_listWays 66 = .ok (.aload_n 0, 1) := by decide +kernel
theorem dM_listWays_67 : decode cM_listWays 67 = .ok (.getfield 74, 3) := by decide +kernel
theorem dM_listWays_70 : decode cM_listWays 70 = .ok (.iload_n 2, 1) := by decide +kernel
theorem dM_listWays_71 : decode cM_listWays 71 = .ok (.iaload, 1) := by decide +kernel
theorem dM_listWays_72 : decode cM_listWays 72 = .ok (.iastore, 1) := by decide +kernel
theorem dM_listWays_73 : decode cM_listWays 73 = .ok (.iinc 2 1, 3) := by decide +kernel
theorem dM_listWays_76 : decode cM_listWays 76 = .ok (.goto (-31), 3) := by decide +kernel
theorem dM_listWays_79 : decode cM_listWays 79 = .ok (.aload_n 0, 1) := by decide +kernel
theorem dM_listWays_80 : decode cM_listWays 80 = .ok (.aload_n 0, 1) := by decide +kernel
theorem dM_listWays_81 : decode cM_listWays 81 = .ok (.getfield 144, 3) := by decide +kernel
theorem dM_listWays_84 : decode cM_listWays 84 = .ok (.iconst 1, 1) := by decide +kernel
theorem dM_listWays_85 : decode cM_listWays 85 = .ok (.iadd, 1) := by decide +kernel
theorem dM_listWays_86 : decode cM_listWays 86 = .ok (.putfield 144, 3) := by decide +kernel
theorem dM_listWays_89 : decode cM_listWays 89 = .ok (.aload_n 0, 1) := by decide +kernel
theorem dM_listWays_90 : decode cM_listWays 90 = .ok (.invokevirtual 147, 3) := by decide +kernel
theorem dM_listWays_93 : decode cM_listWays 93 = .ok (.istore_n 1, 1) := by decide +kernel
theorem dM_listWays_94 : decode cM_listWays 94 = .ok (.goto (-78), 3) := by decide +kernel
theorem dM_listWays_97 : decode cM_listWays 97 = .ok (.return_, 1) := by decide +kernel
theorem dM_seal_0 : decode cM_seal 0 = .ok (.aload_n 0, 1) := by decide +kernel
theorem dM_seal_1 : decode cM_seal 1 = .ok (.getfield 96, 3) := by decide +kernel
theorem dM_seal_4 : decode cM_seal 4 = .ok (.ifCond .eq 5, 3) := by decide +kernel
theorem dM_seal_7 : decode cM_seal 7 = .ok (.iconst (-1), 1) := by decide +kernel
theorem dM_seal_8 : decode cM_seal 8 = .ok (.ireturn, 1) := by decide +kernel
theorem dM_seal_9 : decode cM_seal 9 = .ok (.aload_n 0, 1) := by decide +kernel
theorem dM_seal_10 : decode cM_seal 10 = .ok (.invokevirtual 151, 3) := by decide +kernel
theorem dM_seal_13 : decode cM_seal 13 = .ok (.aload_n 0, 1) := by decide +kernel
theorem dM_seal_14 : decode cM_seal 14 = .ok (.invokevirtual 154, 3) := by decide +kernel
theorem dM_seal_17 : decode cM_seal 17 = .ok (.ifCond .ne 6, 3) := by decide +kernel
theorem dM_seal_20 : decode cM_seal 20 = .ok (.bipush (-2), 2) := by decide +kernel
theorem dM_seal_22 : decode cM_seal 22 = .ok (.ireturn, 1) := by decide +kernel
theorem dM_seal_23 : decode cM_seal 23 = .ok (.aload_n 0, 1) := by decide +kernel
theorem dM_seal_24 : decode cM_seal 24 = .ok (.invokevirtual 157, 3) := by decide +kernel
theorem dM_seal_27 : decode cM_seal 27 = .ok (.aload_n 0, 1) := by decide +kernel
theorem dM_seal_28 : decode cM_seal 28 = .ok (.getfield 50, 3) := by decide +kernel
theorem dM_seal_31 : decode cM_seal 31 = .ok (.iconst 0, 1) := by decide +kernel
theorem dM_seal_32 : decode cM_seal 32 = .ok (.iaload, 1) := by decide +kernel
theorem dM_seal_33 : decode cM_seal 33 = .ok (.sipush 200, 3) := by decide +kernel
theorem dM_seal_36 : decode cM_seal 36 = .ok (.if_icmp .le 6, 3) := by decide +kernel
theorem dM_seal_39 : decode cM_seal 39 = .ok (.bipush (-3), 2) := by decide +kernel
theorem dM_seal_41 : decode cM_seal 41 = .ok (.ireturn, 1) := by decide +kernel
theorem dM_seal_42 : decode cM_seal 42 = .ok (.aload_n 0, 1) := by decide +kernel
theorem dM_seal_43 : decode cM_seal 43 = .ok (.invokevirtual 160, 3) := by decide +kernel
theorem dM_seal_46 : decode cM_seal 46 = .ok (.aload_n 0, 1) := by decide +kernel
theorem dM_seal_47 : decode cM_seal 47 = .ok (.invokevirtual 163, 3) := by decide +kernel
theorem dM_seal_50 : decode cM_seal 50 = .ok (.aload_n 0, 1) := by decide +kernel
theorem dM_seal_51 : decode cM_seal 51 = .ok (.invokevirtual 166, 3) := by decide +kernel
theorem dM_seal_54 : decode cM_seal 54 = .ok (.aload_n 0, 1) := by decide +kernel
theorem dM_seal_55 : decode cM_seal 55 = .ok (.invokevirtual 169, 3) := by decide +kernel
theorem dM_seal_58 : decode cM_seal 58 = .ok (.aload_n 0, 1) := by decide +kernel
theorem dM_seal_59 : decode cM_seal 59 = .ok (.invokevirtual 172, 3) := by decide +kernel
theorem dM_seal_62 : decode cM_seal 62 = .ok (.aload_n 0, 1) := by decide +kernel
theorem dM_seal_63 : decode cM_seal 63 = .ok (.iconst 1, 1) := by decide +kernel
theorem dM_seal_64 : decode cM_seal 64 = .ok (.putfield 96, 3) := by decide +kernel
theorem dM_seal_67 : decode cM_seal 67 = .ok (.aload_n 0, 1) := by decide +kernel
theorem dM_seal_68 : decode cM_seal 68 = .ok (.getfield 144, 3) := by decide +kernel
theorem dM_seal_71 : decode cM_seal 71 = .ok (.ireturn, 1) := by decide +kernel
theorem dM_back_0 : decode cM_back 0 = .ok (.aload_n 0, 1) := by decide +kernel
theorem dM_back_1 : decode cM_back 1 = .ok (.iload_n 1, 1) := by decide +kernel
theorem dM_back_2 : decode cM_back 2 = .ok (.invokevirtual 175, 3) := by decide +kernel
theorem dM_back_5 : decode cM_back 5 = .ok (.ifCond .eq 16, 3) := by decide +kernel
theorem dM_back_8 : decode cM_back 8 = .ok (.aload_n 0, 1) := by decide +kernel
theorem dM_back_9 : decode cM_back 9 = .ok (.getfield 25, 3) := by decide +kernel
theorem dM_back_12 : decode cM_back 12 = .ok (.iload_n 1, 1) := by decide +kernel
theorem dM_back_13 : decode cM_back 13 = .ok (.baload, 1) := by decide +kernel
theorem dM_back_14 : decode cM_back 14 = .ok (.ifCond .eq 7, 3) := by decide +kernel
theorem dM_back_17 : decode cM_back 17 = .ok (.iconst 1, 1) := by decide +kernel
theorem dM_back_18 : decode cM_back 18 = .ok (.goto 4, 3) := by decide +kernel
theorem dM_back_21 : decode cM_back 21 = .ok (.iconst 0, 1) := by decide +kernel
theorem dM_back_22 : decode cM_back 22 = .ok (.ireturn, 1) := by decide +kernel
theorem dM_depth_0 : decode cM_depth 0 = .ok (.aload_n 0, 1) := by decide +kernel
theorem dM_depth_1 : decode cM_depth 1 = .ok (.getfield 96, 3) := by decide +kernel
theorem dM_depth_4 : decode cM_depth 4 = .ok (.ifCond .eq 20, 3) := by decide +kernel
theorem dM_depth_7 : decode cM_depth 7 = .ok (.aload_n 0, 1) := by decide +kernel
theorem dM_depth_8 : decode cM_depth 8 = .ok (.iload_n 1, 1) := by decide +kernel
theorem dM_depth_9 : decode cM_depth 9 = .ok (.invokevirtual 103, 3) := by decide +kernel
theorem dM_depth_12 : decode cM_depth 12 = .ok (.ifCond .eq 12, 3) := by decide +kernel
theorem dM_depth_15 : decode cM_depth 15 = .ok (.aload_n 0, 1) := by decide +kernel
theorem dM_depth_16 : decode cM_depth 16 = .ok (.getfield 32, 3) := by decide +kernel
theorem dM_depth_19 : decode cM_depth 19 = .ok (.iload_n 1, 1) := by decide +kernel
theorem dM_depth_20 : decode cM_depth 20 = .ok (.iaload, 1) := by decide +kernel
theorem dM_depth_21 : decode cM_depth 21 = .ok (.goto 4, 3) := by decide +kernel
theorem dM_depth_24 : decode cM_depth 24 = .ok (.iconst (-1), 1) := by decide +kernel
theorem dM_depth_25 : decode cM_depth 25 = .ok (.ireturn, 1) := by decide +kernel
theorem dM_probe_0 : decode cM_probe 0 = .ok (.aload_n 0, 1) := by decide +kernel
theorem dM_probe_1 : decode cM_probe 1 = .ok (.iload_n 1, 1) := by decide +kernel
theorem dM_probe_2 : decode cM_probe 2 = .ok (.invokevirtual 175, 3) := by decide +kernel
end
section
/-! rows that decode, M -/
theorem dM_probe_5 : decode cM_probe 5 = .ok (.ifCond .eq 16, 3) := by decide +kernel
theorem dM_probe_8 : decode cM_probe 8 = .ok (.aload_n 0, 1) := by decide +kernel
theorem dM_probe_9 : decode cM_probe 9 = .ok (.getfield 38, 3) := by decide +kernel
theorem dM_probe_12 : decode cM_probe 12 = .ok (.iload_n 1, 1) := by decide +kernel
theorem dM_probe_13 : decode cM_probe 13 = .ok (.baload, 1) := by decide +kernel
theorem dM_probe_14 : decode cM_probe 14 = .ok (.ifCond .ne 7, 3) := by decide +kernel
theorem dM_probe_17 : decode cM_probe 17 = .ok (.iconst 1, 1) := by decide +kernel
theorem dM_probe_18 : decode cM_probe 18 = .ok (.goto 4, 3) := by decide +kernel
theorem dM_probe_21 : decode cM_probe 21 = .ok (.iconst 0, 1) := by decide +kernel
theorem dM_probe_22 : decode cM_probe 22 = .ok (.ireturn, 1) := by decide +kernel
theorem dM_increment_0 : decode cM_increment 0 = .ok (.aload_n 0, 1) := by decide +kernel
theorem dM_increment_1 : decode cM_increment 1 = .ok (.iload_n 1, 1) := by decide +kernel
theorem dM_increment_2 : decode cM_increment 2 = .ok (.invokevirtual 175, 3) := by decide +kernel
theorem dM_increment_5 : decode cM_increment 5 = .ok (.ifCond .eq 11, 3) := by decide +kernel
theorem dM_increment_8 : decode cM_increment 8 = .ok (.aload_n 0, 1) := by decide +kernel
theorem dM_increment_9 : decode cM_increment 9 = .ok (.iload_n 1, 1) := by decide +kernel
theorem dM_increment_10 : decode cM_increment 10 = .ok (.invokevirtual 178, 3) := by decide +kernel
theorem dM_increment_13 : decode cM_increment 13 = .ok (.goto 5, 3) := by decide +kernel
theorem dM_increment_16 : decode cM_increment 16 = .ok (.ldc 181, 2) := by decide +kernel
theorem dM_increment_18 : decode cM_increment 18 = .ok (.ireturn, 1) := by decide +kernel
theorem dM_reset_0 : decode cM_reset 0 = .ok (.aload_n 0, 1) := by decide +kernel
theorem dM_reset_1 : decode cM_reset 1 = .ok (.iload_n 1, 1) := by decide +kernel
theorem dM_reset_2 : decode cM_reset 2 = .ok (.invokevirtual 175, 3) := by decide +kernel
theorem dM_reset_5 : decode cM_reset 5 = .ok (.ifCond .eq 23, 3) := by decide +kernel
theorem dM_reset_8 : decode cM_reset 8 = .ok (.aload_n 0, 1) := by decide +kernel
theorem dM_reset_9 : decode cM_reset 9 = .ok (.getfield 25, 3) := by decide +kernel
theorem dM_reset_12 : decode cM_reset 12 = .ok (.iload_n 1, 1) := by decide +kernel
theorem dM_reset_13 : decode cM_reset 13 = .ok (.baload, 1) := by decide +kernel
theorem dM_reset_14 : decode cM_reset 14 = .ok (.ifCond .eq 14, 3) := by decide +kernel
theorem dM_reset_17 : decode cM_reset 17 = .ok (.aload_n 0, 1) := by decide +kernel
theorem dM_reset_18 : decode cM_reset 18 = .ok (.bipush 24, 2) := by decide +kernel
theorem dM_reset_20 : decode cM_reset 20 = .ok (.iload_n 1, 1) := by decide +kernel
theorem dM_reset_21 : decode cM_reset 21 = .ok (.iadd, 1) := by decide +kernel
theorem dM_reset_22 : decode cM_reset 22 = .ok (.invokevirtual 178, 3) := by decide +kernel
theorem dM_reset_25 : decode cM_reset 25 = .ok (.goto 5, 3) := by decide +kernel
theorem dM_reset_28 : decode cM_reset 28 = .ok (.ldc 181, 2) := by decide +kernel
theorem dM_reset_30 : decode cM_reset 30 = .ok (.ireturn, 1) := by decide +kernel
theorem dM_start_0 : decode cM_start 0 = .ok (.aload_n 0, 1) := by decide +kernel
theorem dM_start_1 : decode cM_start 1 = .ok (.getfield 96, 3) := by decide +kernel
theorem dM_start_4 : decode cM_start 4 = .ok (.ifCond .eq 10, 3) := by decide +kernel
theorem dM_start_7 : decode cM_start 7 = .ok (.aload_n 0, 1) := by decide +kernel
theorem dM_start_8 : decode cM_start 8 = .ok (.getfield 182, 3) := by decide +kernel
theorem dM_start_11 : decode cM_start 11 = .ok (.ifCond .eq 5, 3) := by decide +kernel
theorem dM_start_14 : decode cM_start 14 = .ok (.iconst 0, 1) := by decide +kernel
theorem dM_start_15 : decode cM_start 15 = .ok (.ireturn, 1) := by decide +kernel
theorem dM_start_16 : decode cM_start 16 = .ok (.aload_n 0, 1) := by decide +kernel
theorem dM_start_17 : decode cM_start 17 = .ok (.iconst 1, 1) := by decide +kernel
theorem dM_start_18 : decode cM_start 18 = .ok (.putfield 182, 3) := by decide +kernel
theorem dM_start_21 : decode cM_start 21 = .ok (.aload_n 0, 1) := by decide +kernel
theorem dM_start_22 : decode cM_start 22 = .ok (.iconst 0, 1) := by decide +kernel
theorem dM_start_23 : decode cM_start 23 = .ok (.putfield 185, 3) := by decide +kernel
theorem dM_start_26 : decode cM_start 26 = .ok (.aload_n 0, 1) := by decide +kernel
theorem dM_start_27 : decode cM_start 27 = .ok (.iconst 0, 1) := by decide +kernel
theorem dM_start_28 : decode cM_start 28 = .ok (.putfield 188, 3) := by decide +kernel
theorem dM_start_31 : decode cM_start 31 = .ok (.aload_n 0, 1) := by decide +kernel
theorem dM_start_32 : decode cM_start 32 = .ok (.aload_n 0, 1) := by decide +kernel
theorem dM_start_33 : decode cM_start 33 = .ok (.getfield 191, 3) := by decide +kernel
theorem dM_start_36 : decode cM_start 36 = .ok (.iconst 1, 1) := by decide +kernel
theorem dM_start_37 : decode cM_start 37 = .ok (.iadd, 1) := by decide +kernel
theorem dM_start_38 : decode cM_start 38 = .ok (.putfield 191, 3) := by decide +kernel
theorem dM_start_41 : decode cM_start 41 = .ok (.aload_n 0, 1) := by decide +kernel
theorem dM_start_42 : decode cM_start 42 = .ok (.getfield 83, 3) := by decide +kernel
theorem dM_start_45 : decode cM_start 45 = .ok (.iconst 0, 1) := by decide +kernel
theorem dM_start_46 : decode cM_start 46 = .ok (.aload_n 0, 1) := by decide +kernel
theorem dM_start_47 : decode cM_start 47 = .ok (.getfield 83, 3) := by decide +kernel
theorem dM_start_50 : decode cM_start 50 = .ok (.iconst 0, 1) := by decide +kernel
theorem dM_start_51 : decode cM_start 51 = .ok (.iaload, 1) := by decide +kernel
theorem dM_start_52 : decode cM_start 52 = .ok (.iconst 1, 1) := by decide +kernel
theorem dM_start_53 : decode cM_start 53 = .ok (.iadd, 1) := by decide +kernel
theorem dM_start_54 : decode cM_start 54 = .ok (.iastore, 1) := by decide +kernel
theorem dM_start_55 : decode cM_start 55 = .ok (.iconst 1, 1) := by decide +kernel
theorem dM_start_56 : decode cM_start 56 = .ok (.ireturn, 1) := by decide +kernel
theorem dM_note_0 : decode cM_note 0 = .ok (.aload_n 0, 1) := by decide +kernel
theorem dM_note_1 : decode cM_note 1 = .ok (.getfield 77, 3) := by decide +kernel
theorem dM_note_4 : decode cM_note 4 = .ok (.aload_n 0, 1) := by decide +kernel
theorem dM_note_5 : decode cM_note 5 = .ok (.getfield 188, 3) := by decide +kernel
theorem dM_note_8 : decode cM_note 8 = .ok (.iload_n 1, 1) := by decide +kernel
theorem dM_note_9 : decode cM_note 9 = .ok (.iastore, 1) := by decide +kernel
theorem dM_note_10 : decode cM_note 10 = .ok (.aload_n 0, 1) := by decide +kernel
theorem dM_note_11 : decode cM_note 11 = .ok (.aload_n 0, 1) := by decide +kernel
theorem dM_note_12 : decode cM_note 12 = .ok (.getfield 188, 3) := by decide +kernel
theorem dM_note_15 : decode cM_note 15 = .ok (.iconst 1, 1) := by decide +kernel
theorem dM_note_16 : decode cM_note 16 = .ok (.iadd, 1) := by decide +kernel
theorem dM_note_17 : decode cM_note 17 = .ok (.putfield 188, 3) := by decide +kernel
theorem dM_note_20 : decode cM_note 20 = .ok (.return_, 1) := by decide +kernel
theorem dM_countWay_0 : decode cM_countWay 0 = .ok (.iconst 0, 1) := by decide +kernel
theorem dM_countWay_1 : decode cM_countWay 1 = .ok (.istore_n 1, 1) := by decide +kernel
theorem dM_countWay_2 : decode cM_countWay 2 = .ok (.iload_n 1, 1) := by decide +kernel
theorem dM_countWay_3 : decode cM_countWay 3 = .ok (.aload_n 0, 1) := by decide +kernel
theorem dM_countWay_4 : decode cM_countWay 4 = .ok (.getfield 144, 3) := by decide +kernel
theorem dM_countWay_7 : decode cM_countWay 7 = .ok (.if_icmp .ge 101, 3) := by decide +kernel
theorem dM_countWay_10 : decode cM_countWay 10 = .ok (.aload_n 0, 1) := by decide +kernel
theorem dM_countWay_11 : decode cM_countWay 11 = .ok (.getfield 68, 3) := by decide +kernel
theorem dM_countWay_14 : decode cM_countWay 14 = .ok (.iload_n 1, 1) := by decide +kernel
theorem dM_countWay_15 : decode cM_countWay 15 = .ok (.iaload, 1) := by decide +kernel
theorem dM_countWay_16 : decode cM_countWay 16 = .ok (.aload_n 0, 1) := by decide +kernel
theorem dM_countWay_17 : decode cM_countWay 17 = .ok (.getfield 188, 3) := by decide +kernel
theorem dM_countWay_20 : decode cM_countWay 20 = .ok (.if_icmp .ne 7, 3) := by decide +kernel
theorem dM_countWay_23 : decode cM_countWay 23 = .ok (.iconst 1, 1) := by decide +kernel
theorem dM_countWay_24 : decode cM_countWay 24 = .ok (.goto 4, 3) := by decide +kernel
theorem dM_countWay_27 : decode cM_countWay 27 = .ok (.iconst 0, 1) := by decide +kernel
theorem dM_countWay_28 : decode cM_countWay 28 = .ok (.istore_n 2, 1) := by decide +kernel
theorem dM_countWay_29 : decode cM_countWay 29 = .ok (.iconst 0, 1) := by decide +kernel
theorem dM_countWay_30 : decode cM_countWay 30 = .ok (.istore_n 3, 1) := by decide +kernel
theorem dM_countWay_31 : decode cM_countWay 31 = .ok (.iload_n 3, 1) := by decide +kernel
theorem dM_countWay_32 : decode cM_countWay 32 = .ok (.aload_n 0, 1) := by decide +kernel
theorem dM_countWay_33 : decode cM_countWay 33 = .ok (.getfield 188, 3) := by decide +kernel
theorem dM_countWay_36 : decode cM_countWay 36 = .ok (.if_icmp .ge 39, 3) := by decide +kernel
theorem dM_countWay_39 : decode cM_countWay 39 = .ok (.iload_n 2, 1) := by decide +kernel
theorem dM_countWay_40 : decode cM_countWay 40 = .ok (.ifCond .eq 35, 3) := by decide +kernel
theorem dM_countWay_43 : decode cM_countWay 43 = .ok (.aload_n 0, 1) := by decide +kernel
theorem dM_countWay_44 : decode cM_countWay 44 = .ok (.getfield 71, 3) := by decide +kernel
theorem dM_countWay_47 : decode cM_countWay 47 = .ok (.bipush 16, 2) := by decide +kernel
theorem dM_countWay_49 : decode cM_countWay 49 = .ok (.iload_n 1, 1) := by decide +kernel
theorem dM_countWay_50 : decode cM_countWay 50 = .ok (.imul, 1) := by decide +kernel
theorem dM_countWay_51 : decode cM_countWay 51 = .ok (.iload_n 3, 1) := by decide +kernel
theorem dM_countWay_52 : decode cM_countWay 52 = .ok (.iadd, 1) := by decide +kernel
theorem dM_countWay_53 : decode cM_countWay 53 = .ok (.iaload, 1) := by decide +kernel
theorem dM_countWay_54 : decode cM_countWay 54 = .ok (.aload_n 0, 1) := by decide +kernel
theorem dM_countWay_55 : decode cM_countWay 55 = .ok (.getfield 77, 3) := by decide +kernel
theorem dM_countWay_58 : decode cM_countWay 58 = .ok (.iload_n 3, 1) := by decide +kernel
theorem dM_countWay_59 : decode cM_countWay 59 = .ok (.iaload, 1) := by decide +kernel
theorem dM_countWay_60 : decode cM_countWay 60 = .ok (.if_icmp .ne 7, 3) := by decide +kernel
theorem dM_countWay_63 : decode cM_countWay 63 = .ok (.iconst 1, 1) := by decide +kernel
theorem dM_countWay_64 : decode cM_countWay 64 = .ok (.goto 4, 3) := by decide +kernel
theorem dM_countWay_67 : decode cM_countWay 67 = .ok (.iconst 0, 1) := by decide +kernel
theorem dM_countWay_68 : decode cM_countWay 68 = .ok (.istore_n 2, 1) := by decide +kernel
theorem dM_countWay_69 : decode cM_countWay 69 = .ok (.iinc 3 1, 3) := by decide +kernel
theorem dM_countWay_72 : decode cM_countWay 72 = .ok (.goto (-41), 3) := by decide +kernel
theorem dM_countWay_75 : decode cM_countWay 75 = .ok (.aload_n 0, 1) := by decide +kernel
theorem dM_countWay_76 : decode cM_countWay 76 = .ok (.getfield 86, 3) := by decide +kernel
theorem dM_countWay_79 : decode cM_countWay 79 = .ok (.iload_n 1, 1) := by decide +kernel
theorem dM_countWay_80 : decode cM_countWay 80 = .ok (.iload_n 2, 1) := by decide +kernel
theorem dM_countWay_81 : decode cM_countWay 81 = .ok (.ifCond .eq 14, 3) := by decide +kernel
theorem dM_countWay_84 : decode cM_countWay 84 = .ok (.aload_n 0, 1) := by decide +kernel
theorem dM_countWay_85 : decode cM_countWay 85 = .ok (.getfield 86, 3) := by decide +kernel
theorem dM_countWay_88 : decode cM_countWay 88 = .ok (.iload_n 1, 1) := by decide +kernel
theorem dM_countWay_89 : decode cM_countWay 89 = .ok (.iaload, 1) := by decide +kernel
theorem dM_countWay_90 : decode cM_countWay 90 = .ok (.iconst 1, 1) := by decide +kernel
theorem dM_countWay_91 : decode cM_countWay 91 = .ok (.iadd, 1) := by decide +kernel
theorem dM_countWay_92 : decode cM_countWay 92 = .ok (.goto 9, 3) := by decide +kernel
theorem dM_countWay_95 : decode cM_countWay 95 = .ok (.aload_n 0, 1) := by decide +kernel
theorem dM_countWay_96 : decode cM_countWay 96 = .ok (.getfield 86, 3) := by decide +kernel
theorem dM_countWay_99 : decode cM_countWay 99 = .ok (.iload_n 1, 1) := by decide +kernel
theorem dM_countWay_100 : decode cM_countWay 100 = .ok (.iaload, 1) := by decide +kernel
theorem dM_countWay_101 : decode cM_countWay 101 = .ok (.iastore, 1) := by decide +kernel
theorem dM_countWay_102 : decode cM_countWay 102 = .ok (.iinc 1 1, 3) := by decide +kernel
theorem dM_countWay_105 : decode cM_countWay 105 = .ok (.goto (-103), 3) := by decide +kernel
theorem dM_countWay_108 : decode cM_countWay 108 = .ok (.return_, 1) := by decide +kernel
theorem dM_pass_0 : decode cM_pass 0 = .ok (.aload_n 0, 1) := by decide +kernel
theorem dM_pass_1 : decode cM_pass 1 = .ok (.getfield 80, 3) := by decide +kernel
theorem dM_pass_4 : decode cM_pass 4 = .ok (.iload_n 1, 1) := by decide +kernel
theorem dM_pass_5 : decode cM_pass 5 = .ok (.aload_n 0, 1) := by decide +kernel
theorem dM_pass_6 : decode cM_pass 6 = .ok (.getfield 80, 3) := by decide +kernel
theorem dM_pass_9 : decode cM_pass 9 = .ok (.iload_n 1, 1) := by decide +kernel
theorem dM_pass_10 : decode cM_pass 10 = .ok (.iaload, 1) := by decide +kernel
theorem dM_pass_11 : decode cM_pass 11 = .ok (.iconst 1, 1) := by decide +kernel
theorem dM_pass_12 : decode cM_pass 12 = .ok (.iadd, 1) := by decide +kernel
theorem dM_pass_13 : decode cM_pass 13 = .ok (.iastore, 1) := by decide +kernel
theorem dM_pass_14 : decode cM_pass 14 = .ok (.aload_n 0, 1) := by decide +kernel
theorem dM_pass_15 : decode cM_pass 15 = .ok (.aload_n 0, 1) := by decide +kernel
theorem dM_pass_16 : decode cM_pass 16 = .ok (.getfield 13, 3) := by decide +kernel
theorem dM_pass_19 : decode cM_pass 19 = .ok (.iload_n 1, 1) := by decide +kernel
theorem dM_pass_20 : decode cM_pass 20 = .ok (.iaload, 1) := by decide +kernel
theorem dM_pass_21 : decode cM_pass 21 = .ok (.putfield 185, 3) := by decide +kernel
theorem dM_pass_24 : decode cM_pass 24 = .ok (.aload_n 0, 1) := by decide +kernel
theorem dM_pass_25 : decode cM_pass 25 = .ok (.getfield 83, 3) := by decide +kernel
theorem dM_pass_28 : decode cM_pass 28 = .ok (.aload_n 0, 1) := by decide +kernel
theorem dM_pass_29 : decode cM_pass 29 = .ok (.getfield 185, 3) := by decide +kernel
theorem dM_pass_32 : decode cM_pass 32 = .ok (.aload_n 0, 1) := by decide +kernel
theorem dM_pass_33 : decode cM_pass 33 = .ok (.getfield 83, 3) := by decide +kernel
theorem dM_pass_36 : decode cM_pass 36 = .ok (.aload_n 0, 1) := by decide +kernel
theorem dM_pass_37 : decode cM_pass 37 = .ok (.getfield 185, 3) := by decide +kernel
theorem dM_pass_40 : decode cM_pass 40 = .ok (.iaload, 1) := by decide +kernel
theorem dM_pass_41 : decode cM_pass 41 = .ok (.iconst 1, 1) := by decide +kernel
theorem dM_pass_42 : decode cM_pass 42 = .ok (.iadd, 1) := by decide +kernel
theorem dM_pass_43 : decode cM_pass 43 = .ok (.iastore, 1) := by decide +kernel
theorem dM_pass_44 : decode cM_pass 44 = .ok (.aload_n 0, 1) := by decide +kernel
theorem dM_pass_45 : decode cM_pass 45 = .ok (.iload_n 1, 1) := by decide +kernel
theorem dM_pass_46 : decode cM_pass 46 = .ok (.invokevirtual 194, 3) := by decide +kernel
theorem dM_pass_49 : decode cM_pass 49 = .ok (.aload_n 0, 1) := by decide +kernel
theorem dM_pass_50 : decode cM_pass 50 = .ok (.getfield 25, 3) := by decide +kernel
theorem dM_pass_53 : decode cM_pass 53 = .ok (.iload_n 1, 1) := by decide +kernel
theorem dM_pass_54 : decode cM_pass 54 = .ok (.baload, 1) := by decide +kernel
theorem dM_pass_55 : decode cM_pass 55 = .ok (.ifCond .eq 23, 3) := by decide +kernel
theorem dM_pass_58 : decode cM_pass 58 = .ok (.aload_n 0, 1) := by decide +kernel
theorem dM_pass_59 : decode cM_pass 59 = .ok (.invokevirtual 197, 3) := by decide +kernel
theorem dM_pass_62 : decode cM_pass 62 = .ok (.aload_n 0, 1) := by decide +kernel
theorem dM_pass_63 : decode cM_pass 63 = .ok (.iconst 0, 1) := by decide +kernel
theorem dM_pass_64 : decode cM_pass 64 = .ok (.putfield 188, 3) := by decide +kernel
theorem dM_pass_67 : decode cM_pass 67 = .ok (.aload_n 0, 1) := by decide +kernel
theorem dM_pass_68 : decode cM_pass 68 = .ok (.bipush 24, 2) := by decide +kernel
theorem dM_pass_70 : decode cM_pass 70 = .ok (.iload_n 1, 1) := by decide +kernel
theorem dM_pass_71 : decode cM_pass 71 = .ok (.iadd, 1) := by decide +kernel
theorem dM_pass_72 : decode cM_pass 72 = .ok (.invokevirtual 194, 3) := by decide +kernel
theorem dM_pass_75 : decode cM_pass 75 = .ok (.goto 30, 3) := by decide +kernel
theorem dM_pass_78 : decode cM_pass 78 = .ok (.aload_n 0, 1) := by decide +kernel
theorem dM_pass_79 : decode cM_pass 79 = .ok (.getfield 185, 3) := by decide +kernel
theorem dM_pass_82 : decode cM_pass 82 = .ok (.iconst 1, 1) := by decide +kernel
theorem dM_pass_83 : decode cM_pass 83 = .ok (.if_icmp .ne 22, 3) := by decide +kernel
theorem dM_pass_86 : decode cM_pass 86 = .ok (.aload_n 0, 1) := by decide +kernel
theorem dM_pass_87 : decode cM_pass 87 = .ok (.invokevirtual 197, 3) := by decide +kernel
theorem dM_pass_90 : decode cM_pass 90 = .ok (.aload_n 0, 1) := by decide +kernel
theorem dM_pass_91 : decode cM_pass 91 = .ok (.iconst 0, 1) := by decide +kernel
theorem dM_pass_92 : decode cM_pass 92 = .ok (.putfield 182, 3) := by decide +kernel
theorem dM_pass_95 : decode cM_pass 95 = .ok (.aload_n 0, 1) := by decide +kernel
theorem dM_pass_96 : decode cM_pass 96 = .ok (.aload_n 0, 1) := by decide +kernel
theorem dM_pass_97 : decode cM_pass 97 = .ok (.getfield 200, 3) := by decide +kernel
theorem dM_pass_100 : decode cM_pass 100 = .ok (.iconst 1, 1) := by decide +kernel
theorem dM_pass_101 : decode cM_pass 101 = .ok (.iadd, 1) := by decide +kernel
theorem dM_pass_102 : decode cM_pass 102 = .ok (.putfield 200, 3) := by decide +kernel
theorem dM_pass_105 : decode cM_pass 105 = .ok (.return_, 1) := by decide +kernel
theorem dM_take_0 : decode cM_take 0 = .ok (.aload_n 0, 1) := by decide +kernel
theorem dM_take_1 : decode cM_take 1 = .ok (.getfield 182, 3) := by decide +kernel
theorem dM_take_4 : decode cM_take 4 = .ok (.ifCond .eq 24, 3) := by decide +kernel
theorem dM_take_7 : decode cM_take 7 = .ok (.aload_n 0, 1) := by decide +kernel
theorem dM_take_8 : decode cM_take 8 = .ok (.iload_n 1, 1) := by decide +kernel
theorem dM_take_9 : decode cM_take 9 = .ok (.invokevirtual 175, 3) := by decide +kernel
theorem dM_take_12 : decode cM_take 12 = .ok (.ifCond .eq 16, 3) := by decide +kernel
theorem dM_take_15 : decode cM_take 15 = .ok (.aload_n 0, 1) := by decide +kernel
theorem dM_take_16 : decode cM_take 16 = .ok (.getfield 7, 3) := by decide +kernel
theorem dM_take_19 : decode cM_take 19 = .ok (.iload_n 1, 1) := by decide +kernel
theorem dM_take_20 : decode cM_take 20 = .ok (.iaload, 1) := by decide +kernel
theorem dM_take_21 : decode cM_take 21 = .ok (.aload_n 0, 1) := by decide +kernel
theorem dM_take_22 : decode cM_take 22 = .ok (.getfield 185, 3) := by decide +kernel
theorem dM_take_25 : decode cM_take 25 = .ok (.if_icmp .eq 5, 3) := by decide +kernel
theorem dM_take_28 : decode cM_take 28 = .ok (.iconst (-1), 1) := by decide +kernel
theorem dM_take_29 : decode cM_take 29 = .ok (.ireturn, 1) := by decide +kernel
theorem dM_take_30 : decode cM_take 30 = .ok (.aload_n 0, 1) := by decide +kernel
theorem dM_take_31 : decode cM_take 31 = .ok (.iload_n 1, 1) := by decide +kernel
theorem dM_take_32 : decode cM_take 32 = .ok (.invokevirtual 203, 3) := by decide +kernel
theorem dM_take_35 : decode cM_take 35 = .ok (.aload_n 0, 1) := by decide +kernel
theorem dM_take_36 : decode cM_take 36 = .ok (.getfield 13, 3) := by decide +kernel
theorem dM_take_39 : decode cM_take 39 = .ok (.iload_n 1, 1) := by decide +kernel
theorem dM_take_40 : decode cM_take 40 = .ok (.iaload, 1) := by decide +kernel
theorem dM_take_41 : decode cM_take 41 = .ok (.ireturn, 1) := by decide +kernel
theorem dM_pick_0 : decode cM_pick 0 = .ok (.iconst 0, 1) := by decide +kernel
theorem dM_pick_1 : decode cM_pick 1 = .ok (.istore_n 2, 1) := by decide +kernel
theorem dM_pick_2 : decode cM_pick 2 = .ok (.iconst 0, 1) := by decide +kernel
theorem dM_pick_3 : decode cM_pick 3 = .ok (.istore_n 3, 1) := by decide +kernel
theorem dM_pick_4 : decode cM_pick 4 = .ok (.iload_n 3, 1) := by decide +kernel
theorem dM_pick_5 : decode cM_pick 5 = .ok (.aload_n 0, 1) := by decide +kernel
theorem dM_pick_6 : decode cM_pick 6 = .ok (.getfield 100, 3) := by decide +kernel
theorem dM_pick_9 : decode cM_pick 9 = .ok (.if_icmp .ge 30, 3) := by decide +kernel
theorem dM_pick_12 : decode cM_pick 12 = .ok (.aload_n 0, 1) := by decide +kernel
theorem dM_pick_13 : decode cM_pick 13 = .ok (.getfield 7, 3) := by decide +kernel
theorem dM_pick_16 : decode cM_pick 16 = .ok (.iload_n 3, 1) := by decide +kernel
theorem dM_pick_17 : decode cM_pick 17 = .ok (.iaload, 1) := by decide +kernel
theorem dM_pick_18 : decode cM_pick 18 = .ok (.aload_n 0, 1) := by decide +kernel
theorem dM_pick_19 : decode cM_pick 19 = .ok (.getfield 185, 3) := by decide +kernel
theorem dM_pick_22 : decode cM_pick 22 = .ok (.if_icmp .ne 9, 3) := by decide +kernel
theorem dM_pick_25 : decode cM_pick 25 = .ok (.iload_n 2, 1) := by decide +kernel
theorem dM_pick_26 : decode cM_pick 26 = .ok (.iconst 1, 1) := by decide +kernel
theorem dM_pick_27 : decode cM_pick 27 = .ok (.iadd, 1) := by decide +kernel
theorem dM_pick_28 : decode cM_pick 28 = .ok (.goto 4, 3) := by decide +kernel
theorem dM_pick_31 : decode cM_pick 31 = .ok (.iload_n 2, 1) := by decide +kernel
theorem dM_pick_32 : decode cM_pick 32 = .ok (.istore_n 2, 1) := by decide +kernel
theorem dM_pick_33 : decode cM_pick 33 = .ok (.iinc 3 1, 3) := by decide +kernel
theorem dM_pick_36 : decode cM_pick 36 = .ok (.goto (-32), 3) := by decide +kernel
theorem dM_pick_39 : decode cM_pick 39 = .ok (.iload_n 1, 1) := by decide +kernel
theorem dM_pick_40 : decode cM_pick 40 = .ok (.iload_n 2, 1) := by decide +kernel
theorem dM_pick_41 : decode cM_pick 41 = .ok (.irem, 1) := by decide +kernel
theorem dM_pick_42 : decode cM_pick 42 = .ok (.istore_n 3, 1) := by decide +kernel
theorem dM_pick_43 : decode cM_pick 43 = .ok (.iconst 0, 1) := by decide +kernel
theorem dM_pick_44 : decode cM_pick 44 = .ok (.istore 4, 2) := by decide +kernel
theorem dM_pick_46 : decode cM_pick 46 = .ok (.aload_n 0, 1) := by decide +kernel
theorem dM_pick_47 : decode cM_pick 47 = .ok (.getfield 7, 3) := by decide +kernel
theorem dM_pick_50 : decode cM_pick 50 = .ok (.iload 4, 2) := by decide +kernel
theorem dM_pick_52 : decode cM_pick 52 = .ok (.iaload, 1) := by decide +kernel
theorem dM_pick_53 : decode cM_pick 53 = .ok (.aload_n 0, 1) := by decide +kernel
theorem dM_pick_54 : decode cM_pick 54 = .ok (.getfield 185, 3) := by decide +kernel
theorem dM_pick_57 : decode cM_pick 57 = .ok (.if_icmp .ne 7, 3) := by decide +kernel
theorem dM_pick_60 : decode cM_pick 60 = .ok (.iload_n 3, 1) := by decide +kernel
theorem dM_pick_61 : decode cM_pick 61 = .ok (.ifCond .le 34, 3) := by decide +kernel
theorem dM_pick_64 : decode cM_pick 64 = .ok (.aload_n 0, 1) := by decide +kernel
theorem dM_pick_65 : decode cM_pick 65 = .ok (.getfield 7, 3) := by decide +kernel
theorem dM_pick_68 : decode cM_pick 68 = .ok (.iload 4, 2) := by decide +kernel
theorem dM_pick_70 : decode cM_pick 70 = .ok (.iaload, 1) := by decide +kernel
theorem dM_pick_71 : decode cM_pick 71 = .ok (.aload_n 0, 1) := by decide +kernel
theorem dM_pick_72 : decode cM_pick 72 = .ok (.getfield 185, 3) := by decide +kernel
theorem dM_pick_75 : decode cM_pick 75 = .ok (.if_icmp .ne 9, 3) := by decide +kernel
theorem dM_pick_78 : decode cM_pick 78 = .ok (.iload_n 3, 1) := by decide +kernel
theorem dM_pick_79 : decode cM_pick 79 = .ok (.iconst 1, 1) := by decide +kernel
theorem dM_pick_80 : decode cM_pick 80 = .ok (.isub, 1) := by decide +kernel
theorem dM_pick_81 : decode cM_pick 81 = .ok (.goto 4, 3) := by decide +kernel
theorem dM_pick_84 : decode cM_pick 84 = .ok (.iload_n 3, 1) := by decide +kernel
theorem dM_pick_85 : decode cM_pick 85 = .ok (.istore_n 3, 1) := by decide +kernel
theorem dM_pick_86 : decode cM_pick 86 = .ok (.iload 4, 2) := by decide +kernel
theorem dM_pick_88 : decode cM_pick 88 = .ok (.iconst 1, 1) := by decide +kernel
theorem dM_pick_89 : decode cM_pick 89 = .ok (.iadd, 1) := by decide +kernel
theorem dM_pick_90 : decode cM_pick 90 = .ok (.istore 4, 2) := by decide +kernel
theorem dM_pick_92 : decode cM_pick 92 = .ok (.goto (-46), 3) := by decide +kernel
theorem dM_pick_95 : decode cM_pick 95 = .ok (.iload 4, 2) := by decide +kernel
theorem dM_pick_97 : decode cM_pick 97 = .ok (.ireturn, 1) := by decide +kernel
theorem dM_walk_0 : decode cM_walk 0 = .ok (.aload_n 0, 1) := by decide +kernel
theorem dM_walk_1 : decode cM_walk 1 = .ok (.getfield 182, 3) := by decide +kernel
theorem dM_walk_4 : decode cM_walk 4 = .ok (.ifCond .eq 13, 3) := by decide +kernel
theorem dM_walk_7 : decode cM_walk 7 = .ok (.iload_n 2, 1) := by decide +kernel
theorem dM_walk_8 : decode cM_walk 8 = .ok (.ifCond .lt 9, 3) := by decide +kernel
theorem dM_walk_11 : decode cM_walk 11 = .ok (.iload_n 2, 1) := by decide +kernel
theorem dM_walk_12 : decode cM_walk 12 = .ok (.bipush 16, 2) := by decide +kernel
theorem dM_walk_14 : decode cM_walk 14 = .ok (.if_icmp .le 5, 3) := by decide +kernel
theorem dM_walk_17 : decode cM_walk 17 = .ok (.iconst (-1), 1) := by decide +kernel
theorem dM_walk_18 : decode cM_walk 18 = .ok (.ireturn, 1) := by decide +kernel
theorem dM_walk_19 : decode cM_walk 19 = .ok (.iload_n 1, 1) := by decide +kernel
theorem dM_walk_20 : decode cM_walk 20 = .ok (.istore_n 3, 1) := by decide +kernel
theorem dM_walk_21 : decode cM_walk 21 = .ok (.iconst 0, 1) := by decide +kernel
theorem dM_walk_22 : decode cM_walk 22 = .ok (.istore 4, 2) := by decide +kernel
theorem dM_walk_24 : decode cM_walk 24 = .ok (.iload 4, 2) := by decide +kernel
theorem dM_walk_26 : decode cM_walk 26 = .ok (.iload_n 2, 1) := by decide +kernel
theorem dM_walk_27 : decode cM_walk 27 = .ok (.if_icmp .ge 38, 3) := by decide +kernel
theorem dM_walk_30 : decode cM_walk 30 = .ok (.aload_n 0, 1) := by decide +kernel
theorem dM_walk_31 : decode cM_walk 31 = .ok (.getfield 182, 3) := by decide +kernel
theorem dM_walk_34 : decode cM_walk 34 = .ok (.ifCond .eq 31, 3) := by decide +kernel
theorem dM_walk_37 : decode cM_walk 37 = .ok (.aload_n 0, 1) := by decide +kernel
theorem dM_walk_38 : decode cM_walk 38 = .ok (.iload_n 3, 1) := by decide +kernel
theorem dM_walk_39 : decode cM_walk 39 = .ok (.iconst 3, 1) := by decide +kernel
theorem dM_walk_40 : decode cM_walk 40 = .ok (.iand, 1) := by decide +kernel
theorem dM_walk_41 : decode cM_walk 41 = .ok (.invokevirtual 206, 3) := by decide +kernel
theorem dM_walk_44 : decode cM_walk 44 = .ok (.istore 5, 2) := by decide +kernel
theorem dM_walk_46 : decode cM_walk 46 = .ok (.aload_n 0, 1) := by decide +kernel
theorem dM_walk_47 : decode cM_walk 47 = .ok (.iload 5, 2) := by decide +kernel
theorem dM_walk_49 : decode cM_walk 49 = .ok (.invokevirtual 203, 3) := by decide +kernel
theorem dM_walk_52 : decode cM_walk 52 = .ok (.iload_n 3, 1) := by decide +kernel
theorem dM_walk_53 : decode cM_walk 53 = .ok (.iconst 2, 1) := by decide +kernel
theorem dM_walk_54 : decode cM_walk 54 = .ok (.iushr, 1) := by decide +kernel
theorem dM_walk_55 : decode cM_walk 55 = .ok (.istore_n 3, 1) := by decide +kernel
theorem dM_walk_56 : decode cM_walk 56 = .ok (.iload 4, 2) := by decide +kernel
theorem dM_walk_58 : decode cM_walk 58 = .ok (.iconst 1, 1) := by decide +kernel
theorem dM_walk_59 : decode cM_walk 59 = .ok (.iadd, 1) := by decide +kernel
theorem dM_walk_60 : decode cM_walk 60 = .ok (.istore 4, 2) := by decide +kernel
theorem dM_walk_62 : decode cM_walk 62 = .ok (.goto (-38), 3) := by decide +kernel
theorem dM_walk_65 : decode cM_walk 65 = .ok (.iload 4, 2) := by decide +kernel
theorem dM_walk_67 : decode cM_walk 67 = .ok (.ireturn, 1) := by decide +kernel
theorem dM_stop_0 : decode cM_stop 0 = .ok (.aload_n 0, 1) := by decide +kernel
theorem dM_stop_1 : decode cM_stop 1 = .ok (.getfield 182, 3) := by decide +kernel
theorem dM_stop_4 : decode cM_stop 4 = .ok (.ifCond .ne 5, 3) := by decide +kernel
theorem dM_stop_7 : decode cM_stop 7 = .ok (.iconst (-1), 1) := by decide +kernel
theorem dM_stop_8 : decode cM_stop 8 = .ok (.ireturn, 1) := by decide +kernel
theorem dM_stop_9 : decode cM_stop 9 = .ok (.aload_n 0, 1) := by decide +kernel
theorem dM_stop_10 : decode cM_stop 10 = .ok (.iconst 0, 1) := by decide +kernel
theorem dM_stop_11 : decode cM_stop 11 = .ok (.putfield 182, 3) := by decide +kernel
theorem dM_stop_14 : decode cM_stop 14 = .ok (.aload_n 0, 1) := by decide +kernel
theorem dM_stop_15 : decode cM_stop 15 = .ok (.getfield 89, 3) := by decide +kernel
theorem dM_stop_18 : decode cM_stop 18 = .ok (.aload_n 0, 1) := by decide +kernel
theorem dM_stop_19 : decode cM_stop 19 = .ok (.getfield 185, 3) := by decide +kernel
theorem dM_stop_22 : decode cM_stop 22 = .ok (.aload_n 0, 1) := by decide +kernel
theorem dM_stop_23 : decode cM_stop 23 = .ok (.getfield 89, 3) := by decide +kernel
theorem dM_stop_26 : decode cM_stop 26 = .ok (.aload_n 0, 1) := by decide +kernel
theorem dM_stop_27 : decode cM_stop 27 = .ok (.getfield 185, 3) := by decide +kernel
theorem dM_stop_30 : decode cM_stop 30 = .ok (.iaload, 1) := by decide +kernel
theorem dM_stop_31 : decode cM_stop 31 = .ok (.iconst 1, 1) := by decide +kernel
theorem dM_stop_32 : decode cM_stop 32 = .ok (.iadd, 1) := by decide +kernel
theorem dM_stop_33 : decode cM_stop 33 = .ok (.iastore, 1) := by decide +kernel
theorem dM_stop_34 : decode cM_stop 34 = .ok (.aload_n 0, 1) := by decide +kernel
theorem dM_stop_35 : decode cM_stop 35 = .ok (.getfield 185, 3) := by decide +kernel
theorem dM_stop_38 : decode cM_stop 38 = .ok (.ireturn, 1) := by decide +kernel
theorem dM_at_0 : decode cM_at 0 = .ok (.aload_n 0, 1) := by decide +kernel
theorem dM_at_1 : decode cM_at 1 = .ok (.getfield 182, 3) := by decide +kernel
theorem dM_at_4 : decode cM_at 4 = .ok (.ifCond .eq 10, 3) := by decide +kernel
theorem dM_at_7 : decode cM_at 7 = .ok (.aload_n 0, 1) := by decide +kernel
theorem dM_at_8 : decode cM_at 8 = .ok (.getfield 185, 3) := by decide +kernel
theorem dM_at_11 : decode cM_at 11 = .ok (.goto 4, 3) := by decide +kernel
theorem dM_at_14 : decode cM_at 14 = .ok (.iconst (-1), 1) := by decide +kernel
theorem dM_at_15 : decode cM_at 15 = .ok (.ireturn, 1) := by decide +kernel
theorem dM_register_0 : decode cM_register 0 = .ok (.iconst 0, 1) := by decide +kernel
theorem dM_register_1 : decode cM_register 1 = .ok (.istore_n 1, 1) := by decide +kernel
theorem dM_register_2 : decode cM_register 2 = .ok (.iconst 0, 1) := by decide +kernel
theorem dM_register_3 : decode cM_register 3 = .ok (.istore_n 2, 1) := by decide +kernel
theorem dM_register_4 : decode cM_register 4 = .ok (.iload_n 2, 1) := by decide +kernel
theorem dM_register_5 : decode cM_register 5 = .ok (.aload_n 0, 1) := by decide +kernel
theorem dM_register_6 : decode cM_register 6 = .ok (.getfield 188, 3) := by decide +kernel
theorem dM_register_9 : decode cM_register 9 = .ok (.if_icmp .ge 22, 3) := by decide +kernel
theorem dM_register_12 : decode cM_register 12 = .ok (.iload_n 1, 1) := by decide +kernel
theorem dM_register_13 : decode cM_register 13 = .ok (.aload_n 0, 1) := by decide +kernel
theorem dM_register_14 : decode cM_register 14 = .ok (.aload_n 0, 1) := by decide +kernel
theorem dM_register_15 : decode cM_register 15 = .ok (.getfield 77, 3) := by decide +kernel
theorem dM_register_18 : decode cM_register 18 = .ok (.iload_n 2, 1) := by decide +kernel
theorem dM_register_19 : decode cM_register 19 = .ok (.iaload, 1) := by decide +kernel
theorem dM_register_20 : decode cM_register 20 = .ok (.invokevirtual 178, 3) := by decide +kernel
theorem dM_register_23 : decode cM_register 23 = .ok (.iadd, 1) := by decide +kernel
theorem dM_register_24 : decode cM_register 24 = .ok (.istore_n 1, 1) := by decide +kernel
theorem dM_register_25 : decode cM_register 25 = .ok (.iinc 2 1, 3) := by decide +kernel
theorem dM_register_28 : decode cM_register 28 = .ok (.goto (-24), 3) := by decide +kernel
theorem dM_register_31 : decode cM_register 31 = .ok (.aload_n 0, 1) := by decide +kernel
theorem dM_register_32 : decode cM_register 32 = .ok (.getfield 182, 3) := by decide +kernel
theorem dM_register_35 : decode cM_register 35 = .ok (.ifCond .eq 7, 3) := by decide +kernel
theorem dM_register_38 : decode cM_register 38 = .ok (.iload_n 1, 1) := by decide +kernel
theorem dM_register_39 : decode cM_register 39 = .ok (.goto 4, 3) := by decide +kernel
theorem dM_register_42 : decode cM_register 42 = .ok (.iconst 0, 1) := by decide +kernel
theorem dM_register_43 : decode cM_register 43 = .ok (.ireturn, 1) := by decide +kernel
theorem dM_count_0 : decode cM_count 0 = .ok (.aload_n 0, 1) := by decide +kernel
theorem dM_count_1 : decode cM_count 1 = .ok (.iload_n 1, 1) := by decide +kernel
theorem dM_count_2 : decode cM_count 2 = .ok (.invokevirtual 175, 3) := by decide +kernel
theorem dM_count_5 : decode cM_count 5 = .ok (.ifCond .eq 12, 3) := by decide +kernel
theorem dM_count_8 : decode cM_count 8 = .ok (.aload_n 0, 1) := by decide +kernel
theorem dM_count_9 : decode cM_count 9 = .ok (.getfield 80, 3) := by decide +kernel
theorem dM_count_12 : decode cM_count 12 = .ok (.iload_n 1, 1) := by decide +kernel
theorem dM_count_13 : decode cM_count 13 = .ok (.iaload, 1) := by decide +kernel
theorem dM_count_14 : decode cM_count 14 = .ok (.goto 4, 3) := by decide +kernel
theorem dM_count_17 : decode cM_count 17 = .ok (.iconst (-1), 1) := by decide +kernel
theorem dM_count_18 : decode cM_count 18 = .ok (.ireturn, 1) := by decide +kernel
theorem dM_visits_0 : decode cM_visits 0 = .ok (.aload_n 0, 1) := by decide +kernel
theorem dM_visits_1 : decode cM_visits 1 = .ok (.getfield 96, 3) := by decide +kernel
theorem dM_visits_4 : decode cM_visits 4 = .ok (.ifCond .eq 20, 3) := by decide +kernel
theorem dM_visits_7 : decode cM_visits 7 = .ok (.aload_n 0, 1) := by decide +kernel
theorem dM_visits_8 : decode cM_visits 8 = .ok (.iload_n 1, 1) := by decide +kernel
theorem dM_visits_9 : decode cM_visits 9 = .ok (.invokevirtual 103, 3) := by decide +kernel
theorem dM_visits_12 : decode cM_visits 12 = .ok (.ifCond .eq 12, 3) := by decide +kernel
theorem dM_visits_15 : decode cM_visits 15 = .ok (.aload_n 0, 1) := by decide +kernel
theorem dM_visits_16 : decode cM_visits 16 = .ok (.getfield 83, 3) := by decide +kernel
theorem dM_visits_19 : decode cM_visits 19 = .ok (.iload_n 1, 1) := by decide +kernel
theorem dM_visits_20 : decode cM_visits 20 = .ok (.iaload, 1) := by decide +kernel
theorem dM_visits_21 : decode cM_visits 21 = .ok (.goto 4, 3) := by decide +kernel
theorem dM_visits_24 : decode cM_visits 24 = .ok (.iconst (-1), 1) := by decide +kernel
theorem dM_visits_25 : decode cM_visits 25 = .ok (.ireturn, 1) := by decide +kernel
theorem dM_passed_0 : decode cM_passed 0 = .ok (.aload_n 0, 1) := by decide +kernel
theorem dM_passed_1 : decode cM_passed 1 = .ok (.getfield 96, 3) := by decide +kernel
theorem dM_passed_4 : decode cM_passed 4 = .ok (.ifCond .eq 24, 3) := by decide +kernel
theorem dM_passed_7 : decode cM_passed 7 = .ok (.iload_n 1, 1) := by decide +kernel
theorem dM_passed_8 : decode cM_passed 8 = .ok (.ifCond .lt 20, 3) := by decide +kernel
theorem dM_passed_11 : decode cM_passed 11 = .ok (.iload_n 1, 1) := by decide +kernel
theorem dM_passed_12 : decode cM_passed 12 = .ok (.aload_n 0, 1) := by decide +kernel
theorem dM_passed_13 : decode cM_passed 13 = .ok (.getfield 144, 3) := by decide +kernel
theorem dM_passed_16 : decode cM_passed 16 = .ok (.if_icmp .ge 12, 3) := by decide +kernel
theorem dM_passed_19 : decode cM_passed 19 = .ok (.aload_n 0, 1) := by decide +kernel
theorem dM_passed_20 : decode cM_passed 20 = .ok (.getfield 86, 3) := by decide +kernel
theorem dM_passed_23 : decode cM_passed 23 = .ok (.iload_n 1, 1) := by decide +kernel
theorem dM_passed_24 : decode cM_passed 24 = .ok (.iaload, 1) := by decide +kernel
theorem dM_passed_25 : decode cM_passed 25 = .ok (.goto 4, 3) := by decide +kernel
theorem dM_passed_28 : decode cM_passed 28 = .ok (.iconst (-1), 1) := by decide +kernel
theorem dM_passed_29 : decode cM_passed 29 = .ok (.ireturn, 1) := by decide +kernel
theorem dM_along_0 : decode cM_along 0 = .ok (.aload_n 0, 1) := by decide +kernel
theorem dM_along_1 : decode cM_along 1 = .ok (.getfield 96, 3) := by decide +kernel
theorem dM_along_4 : decode cM_along 4 = .ok (.ifCond .eq 19, 3) := by decide +kernel
theorem dM_along_7 : decode cM_along 7 = .ok (.iload_n 1, 1) := by decide +kernel
theorem dM_along_8 : decode cM_along 8 = .ok (.ifCond .lt 15, 3) := by decide +kernel
theorem dM_along_11 : decode cM_along 11 = .ok (.iload_n 1, 1) := by decide +kernel
theorem dM_along_12 : decode cM_along 12 = .ok (.aload_n 0, 1) := by decide +kernel
theorem dM_along_13 : decode cM_along 13 = .ok (.getfield 144, 3) := by decide +kernel
theorem dM_along_16 : decode cM_along 16 = .ok (.if_icmp .ge 7, 3) := by decide +kernel
theorem dM_along_19 : decode cM_along 19 = .ok (.iload_n 2, 1) := by decide +kernel
theorem dM_along_20 : decode cM_along 20 = .ok (.ifCond .ge 6, 3) := by decide +kernel
theorem dM_along_23 : decode cM_along 23 = .ok (.ldc 181, 2) := by decide +kernel
theorem dM_along_25 : decode cM_along 25 = .ok (.ireturn, 1) := by decide +kernel
theorem dM_along_26 : decode cM_along 26 = .ok (.aload_n 0, 1) := by decide +kernel
theorem dM_along_27 : decode cM_along 27 = .ok (.getfield 71, 3) := by decide +kernel
theorem dM_along_30 : decode cM_along 30 = .ok (.bipush 16, 2) := by decide +kernel
theorem dM_along_32 : decode cM_along 32 = .ok (.iload_n 1, 1) := by decide +kernel
theorem dM_along_33 : decode cM_along 33 = .ok (.imul, 1) := by decide +kernel
end
section
/-! rows that decode, M -/
theorem dM_along_34 : decode cM_along 34 = .ok (.iaload, 1) := by decide +kernel
theorem dM_along_35 : decode cM_along 35 = .ok (.istore_n 3, 1) := by decide +kernel
theorem dM_along_36 : decode cM_along 36 = .ok (.iload_n 2, 1) := by decide +kernel
theorem dM_along_37 : decode cM_along 37 = .ok (.ifCond .ne 18, 3) := by decide +kernel
theorem dM_along_40 : decode cM_along 40 = .ok (.iload_n 3, 1) := by decide +kernel
theorem dM_along_41 : decode cM_along 41 = .ok (.bipush 24, 2) := by decide +kernel
theorem dM_along_43 : decode cM_along 43 = .ok (.if_icmp .lt 10, 3) := by decide +kernel
theorem dM_along_46 : decode cM_along 46 = .ok (.iload_n 3, 1) := by decide +kernel
theorem dM_along_47 : decode cM_along 47 = .ok (.bipush 24, 2) := by decide +kernel
theorem dM_along_49 : decode cM_along 49 = .ok (.isub, 1) := by decide +kernel
theorem dM_along_50 : decode cM_along 50 = .ok (.goto 4, 3) := by decide +kernel
theorem dM_along_53 : decode cM_along 53 = .ok (.iconst (-1), 1) := by decide +kernel
theorem dM_along_54 : decode cM_along 54 = .ok (.ireturn, 1) := by decide +kernel
theorem dM_along_55 : decode cM_along 55 = .ok (.iload_n 3, 1) := by decide +kernel
theorem dM_along_56 : decode cM_along 56 = .ok (.bipush 24, 2) := by decide +kernel
theorem dM_along_58 : decode cM_along 58 = .ok (.if_icmp .lt 7, 3) := by decide +kernel
theorem dM_along_61 : decode cM_along 61 = .ok (.iload_n 2, 1) := by decide +kernel
theorem dM_along_62 : decode cM_along 62 = .ok (.goto 6, 3) := by decide +kernel
theorem dM_along_65 : decode cM_along 65 = .ok (.iload_n 2, 1) := by decide +kernel
theorem dM_along_66 : decode cM_along 66 = .ok (.iconst 1, 1) := by decide +kernel
theorem dM_along_67 : decode cM_along 67 = .ok (.isub, 1) := by decide +kernel
theorem dM_along_68 : decode cM_along 68 = .ok (.istore 4, 2) := by decide +kernel
theorem dM_along_70 : decode cM_along 70 = .ok (.iload 4, 2) := by decide +kernel
theorem dM_along_72 : decode cM_along 72 = .ok (.aload_n 0, 1) := by decide +kernel
theorem dM_along_73 : decode cM_along 73 = .ok (.getfield 68, 3) := by decide +kernel
theorem dM_along_76 : decode cM_along 76 = .ok (.iload_n 1, 1) := by decide +kernel
theorem dM_along_77 : decode cM_along 77 = .ok (.iaload, 1) := by decide +kernel
theorem dM_along_78 : decode cM_along 78 = .ok (.if_icmp .ge 18, 3) := by decide +kernel
theorem dM_along_81 : decode cM_along 81 = .ok (.aload_n 0, 1) := by decide +kernel
theorem dM_along_82 : decode cM_along 82 = .ok (.getfield 71, 3) := by decide +kernel
theorem dM_along_85 : decode cM_along 85 = .ok (.bipush 16, 2) := by decide +kernel
theorem dM_along_87 : decode cM_along 87 = .ok (.iload_n 1, 1) := by decide +kernel
theorem dM_along_88 : decode cM_along 88 = .ok (.imul, 1) := by decide +kernel
theorem dM_along_89 : decode cM_along 89 = .ok (.iload 4, 2) := by decide +kernel
theorem dM_along_91 : decode cM_along 91 = .ok (.iadd, 1) := by decide +kernel
theorem dM_along_92 : decode cM_along 92 = .ok (.iaload, 1) := by decide +kernel
theorem dM_along_93 : decode cM_along 93 = .ok (.goto 5, 3) := by decide +kernel
theorem dM_along_96 : decode cM_along 96 = .ok (.ldc 181, 2) := by decide +kernel
theorem dM_along_98 : decode cM_along 98 = .ok (.ireturn, 1) := by decide +kernel
theorem dM_stopped_0 : decode cM_stopped 0 = .ok (.aload_n 0, 1) := by decide +kernel
theorem dM_stopped_1 : decode cM_stopped 1 = .ok (.getfield 96, 3) := by decide +kernel
theorem dM_stopped_4 : decode cM_stopped 4 = .ok (.ifCond .eq 20, 3) := by decide +kernel
theorem dM_stopped_7 : decode cM_stopped 7 = .ok (.aload_n 0, 1) := by decide +kernel
theorem dM_stopped_8 : decode cM_stopped 8 = .ok (.iload_n 1, 1) := by decide +kernel
theorem dM_stopped_9 : decode cM_stopped 9 = .ok (.invokevirtual 103, 3) := by decide +kernel
theorem dM_stopped_12 : decode cM_stopped 12 = .ok (.ifCond .eq 12, 3) := by decide +kernel
theorem dM_stopped_15 : decode cM_stopped 15 = .ok (.aload_n 0, 1) := by decide +kernel
theorem dM_stopped_16 : decode cM_stopped 16 = .ok (.getfield 89, 3) := by decide +kernel
theorem dM_stopped_19 : decode cM_stopped 19 = .ok (.iload_n 1, 1) := by decide +kernel
theorem dM_stopped_20 : decode cM_stopped 20 = .ok (.iaload, 1) := by decide +kernel
theorem dM_stopped_21 : decode cM_stopped 21 = .ok (.goto 4, 3) := by decide +kernel
theorem dM_stopped_24 : decode cM_stopped 24 = .ok (.iconst (-1), 1) := by decide +kernel
theorem dM_stopped_25 : decode cM_stopped 25 = .ok (.ireturn, 1) := by decide +kernel
theorem dM_covered_0 : decode cM_covered 0 = .ok (.aload_n 0, 1) := by decide +kernel
theorem dM_covered_1 : decode cM_covered 1 = .ok (.getfield 96, 3) := by decide +kernel
theorem dM_covered_4 : decode cM_covered 4 = .ok (.ifCond .eq 12, 3) := by decide +kernel
theorem dM_covered_7 : decode cM_covered 7 = .ok (.iload_n 1, 1) := by decide +kernel
theorem dM_covered_8 : decode cM_covered 8 = .ok (.ifCond .lt 8, 3) := by decide +kernel
theorem dM_covered_11 : decode cM_covered 11 = .ok (.iload_n 1, 1) := by decide +kernel
theorem dM_covered_12 : decode cM_covered 12 = .ok (.iconst 4, 1) := by decide +kernel
theorem dM_covered_13 : decode cM_covered 13 = .ok (.if_icmp .le 5, 3) := by decide +kernel
theorem dM_covered_16 : decode cM_covered 16 = .ok (.iconst (-1), 1) := by decide +kernel
theorem dM_covered_17 : decode cM_covered 17 = .ok (.ireturn, 1) := by decide +kernel
theorem dM_covered_18 : decode cM_covered 18 = .ok (.iload_n 1, 1) := by decide +kernel
theorem dM_covered_19 : decode cM_covered 19 = .ok (.iconst 2, 1) := by decide +kernel
theorem dM_covered_20 : decode cM_covered 20 = .ok (.if_icmp .le 20, 3) := by decide +kernel
theorem dM_covered_23 : decode cM_covered 23 = .ok (.iload_n 1, 1) := by decide +kernel
theorem dM_covered_24 : decode cM_covered 24 = .ok (.iconst 3, 1) := by decide +kernel
theorem dM_covered_25 : decode cM_covered 25 = .ok (.if_icmp .ne 10, 3) := by decide +kernel
theorem dM_covered_28 : decode cM_covered 28 = .ok (.aload_n 0, 1) := by decide +kernel
theorem dM_covered_29 : decode cM_covered 29 = .ok (.getfield 191, 3) := by decide +kernel
theorem dM_covered_32 : decode cM_covered 32 = .ok (.goto 7, 3) := by decide +kernel
theorem dM_covered_35 : decode cM_covered 35 = .ok (.aload_n 0, 1) := by decide +kernel
theorem dM_covered_36 : decode cM_covered 36 = .ok (.getfield 200, 3) := by decide +kernel
theorem dM_covered_39 : decode cM_covered 39 = .ok (.ireturn, 1) := by decide +kernel
theorem dM_covered_40 : decode cM_covered 40 = .ok (.iconst 0, 1) := by decide +kernel
theorem dM_covered_41 : decode cM_covered 41 = .ok (.istore_n 2, 1) := by decide +kernel
theorem dM_covered_42 : decode cM_covered 42 = .ok (.iconst 0, 1) := by decide +kernel
theorem dM_covered_43 : decode cM_covered 43 = .ok (.istore_n 3, 1) := by decide +kernel
theorem dM_covered_44 : decode cM_covered 44 = .ok (.iload_n 3, 1) := by decide +kernel
theorem dM_covered_45 : decode cM_covered 45 = .ok (.aload_n 0, 1) := by decide +kernel
theorem dM_covered_46 : decode cM_covered 46 = .ok (.getfield 92, 3) := by decide +kernel
theorem dM_covered_49 : decode cM_covered 49 = .ok (.if_icmp .ge 30, 3) := by decide +kernel
theorem dM_covered_52 : decode cM_covered 52 = .ok (.iload_n 1, 1) := by decide +kernel
theorem dM_covered_53 : decode cM_covered 53 = .ok (.ifCond .ne 26, 3) := by decide +kernel
theorem dM_covered_56 : decode cM_covered 56 = .ok (.aload_n 0, 1) := by decide +kernel
theorem dM_covered_57 : decode cM_covered 57 = .ok (.getfield 83, 3) := by decide +kernel
theorem dM_covered_60 : decode cM_covered 60 = .ok (.iload_n 3, 1) := by decide +kernel
theorem dM_covered_61 : decode cM_covered 61 = .ok (.iaload, 1) := by decide +kernel
theorem dM_covered_62 : decode cM_covered 62 = .ok (.ifCond .le 9, 3) := by decide +kernel
theorem dM_covered_65 : decode cM_covered 65 = .ok (.iload_n 2, 1) := by decide +kernel
theorem dM_covered_66 : decode cM_covered 66 = .ok (.iconst 1, 1) := by decide +kernel
theorem dM_covered_67 : decode cM_covered 67 = .ok (.iadd, 1) := by decide +kernel
theorem dM_covered_68 : decode cM_covered 68 = .ok (.goto 4, 3) := by decide +kernel
theorem dM_covered_71 : decode cM_covered 71 = .ok (.iload_n 2, 1) := by decide +kernel
theorem dM_covered_72 : decode cM_covered 72 = .ok (.istore_n 2, 1) := by decide +kernel
theorem dM_covered_73 : decode cM_covered 73 = .ok (.iinc 3 1, 3) := by decide +kernel
theorem dM_covered_76 : decode cM_covered 76 = .ok (.goto (-32), 3) := by decide +kernel
theorem dM_covered_79 : decode cM_covered 79 = .ok (.iconst 0, 1) := by decide +kernel
theorem dM_covered_80 : decode cM_covered 80 = .ok (.istore_n 3, 1) := by decide +kernel
theorem dM_covered_81 : decode cM_covered 81 = .ok (.iload_n 3, 1) := by decide +kernel
theorem dM_covered_82 : decode cM_covered 82 = .ok (.aload_n 0, 1) := by decide +kernel
theorem dM_covered_83 : decode cM_covered 83 = .ok (.getfield 100, 3) := by decide +kernel
theorem dM_covered_86 : decode cM_covered 86 = .ok (.if_icmp .ge 31, 3) := by decide +kernel
theorem dM_covered_89 : decode cM_covered 89 = .ok (.iload_n 1, 1) := by decide +kernel
theorem dM_covered_90 : decode cM_covered 90 = .ok (.iconst 1, 1) := by decide +kernel
theorem dM_covered_91 : decode cM_covered 91 = .ok (.if_icmp .ne 26, 3) := by decide +kernel
theorem dM_covered_94 : decode cM_covered 94 = .ok (.aload_n 0, 1) := by decide +kernel
theorem dM_covered_95 : decode cM_covered 95 = .ok (.getfield 80, 3) := by decide +kernel
theorem dM_covered_98 : decode cM_covered 98 = .ok (.iload_n 3, 1) := by decide +kernel
theorem dM_covered_99 : decode cM_covered 99 = .ok (.iaload, 1) := by decide +kernel
theorem dM_covered_100 : decode cM_covered 100 = .ok (.ifCond .le 9, 3) := by decide +kernel
theorem dM_covered_103 : decode cM_covered 103 = .ok (.iload_n 2, 1) := by decide +kernel
theorem dM_covered_104 : decode cM_covered 104 = .ok (.iconst 1, 1) := by decide +kernel
theorem dM_covered_105 : decode cM_covered 105 = .ok (.iadd, 1) := by decide +kernel
theorem dM_covered_106 : decode cM_covered 106 = .ok (.goto 4, 3) := by decide +kernel
theorem dM_covered_109 : decode cM_covered 109 = .ok (.iload_n 2, 1) := by decide +kernel
theorem dM_covered_110 : decode cM_covered 110 = .ok (.istore_n 2, 1) := by decide +kernel
theorem dM_covered_111 : decode cM_covered 111 = .ok (.iinc 3 1, 3) := by decide +kernel
theorem dM_covered_114 : decode cM_covered 114 = .ok (.goto (-33), 3) := by decide +kernel
theorem dM_covered_117 : decode cM_covered 117 = .ok (.iconst 0, 1) := by decide +kernel
theorem dM_covered_118 : decode cM_covered 118 = .ok (.istore_n 3, 1) := by decide +kernel
theorem dM_covered_119 : decode cM_covered 119 = .ok (.iload_n 3, 1) := by decide +kernel
theorem dM_covered_120 : decode cM_covered 120 = .ok (.aload_n 0, 1) := by decide +kernel
theorem dM_covered_121 : decode cM_covered 121 = .ok (.getfield 144, 3) := by decide +kernel
theorem dM_covered_124 : decode cM_covered 124 = .ok (.if_icmp .ge 31, 3) := by decide +kernel
theorem dM_covered_127 : decode cM_covered 127 = .ok (.iload_n 1, 1) := by decide +kernel
theorem dM_covered_128 : decode cM_covered 128 = .ok (.iconst 2, 1) := by decide +kernel
theorem dM_covered_129 : decode cM_covered 129 = .ok (.if_icmp .ne 26, 3) := by decide +kernel
theorem dM_covered_132 : decode cM_covered 132 = .ok (.aload_n 0, 1) := by decide +kernel
theorem dM_covered_133 : decode cM_covered 133 = .ok (.getfield 86, 3) := by decide +kernel
theorem dM_covered_136 : decode cM_covered 136 = .ok (.iload_n 3, 1) := by decide +kernel
theorem dM_covered_137 : decode cM_covered 137 = .ok (.iaload, 1) := by decide +kernel
theorem dM_covered_138 : decode cM_covered 138 = .ok (.ifCond .le 9, 3) := by decide +kernel
theorem dM_covered_141 : decode cM_covered 141 = .ok (.iload_n 2, 1) := by decide +kernel
theorem dM_covered_142 : decode cM_covered 142 = .ok (.iconst 1, 1) := by decide +kernel
theorem dM_covered_143 : decode cM_covered 143 = .ok (.iadd, 1) := by decide +kernel
theorem dM_covered_144 : decode cM_covered 144 = .ok (.goto 4, 3) := by decide +kernel
theorem dM_covered_147 : decode cM_covered 147 = .ok (.iload_n 2, 1) := by decide +kernel
theorem dM_covered_148 : decode cM_covered 148 = .ok (.istore_n 2, 1) := by decide +kernel
theorem dM_covered_149 : decode cM_covered 149 = .ok (.iinc 3 1, 3) := by decide +kernel
theorem dM_covered_152 : decode cM_covered 152 = .ok (.goto (-33), 3) := by decide +kernel
theorem dM_covered_155 : decode cM_covered 155 = .ok (.iload_n 2, 1) := by decide +kernel
theorem dM_covered_156 : decode cM_covered 156 = .ok (.ireturn, 1) := by decide +kernel
theorem dM_clear_0 : decode cM_clear 0 = .ok (.iconst 0, 1) := by decide +kernel
theorem dM_clear_1 : decode cM_clear 1 = .ok (.istore_n 1, 1) := by decide +kernel
theorem dM_clear_2 : decode cM_clear 2 = .ok (.iload_n 1, 1) := by decide +kernel
theorem dM_clear_3 : decode cM_clear 3 = .ok (.bipush 24, 2) := by decide +kernel
theorem dM_clear_5 : decode cM_clear 5 = .ok (.if_icmp .ge 16, 3) := by decide +kernel
theorem dM_clear_8 : decode cM_clear 8 = .ok (.aload_n 0, 1) := by decide +kernel
theorem dM_clear_9 : decode cM_clear 9 = .ok (.getfield 80, 3) := by decide +kernel
theorem dM_clear_12 : decode cM_clear 12 = .ok (.iload_n 1, 1) := by decide +kernel
theorem dM_clear_13 : decode cM_clear 13 = .ok (.iconst 0, 1) := by decide +kernel
theorem dM_clear_14 : decode cM_clear 14 = .ok (.iastore, 1) := by decide +kernel
theorem dM_clear_15 : decode cM_clear 15 = .ok (.iinc 1 1, 3) := by decide +kernel
theorem dM_clear_18 : decode cM_clear 18 = .ok (.goto (-16), 3) := by decide +kernel
theorem dM_clear_21 : decode cM_clear 21 = .ok (.iconst 0, 1) := by decide +kernel
theorem dM_clear_22 : decode cM_clear 22 = .ok (.istore_n 1, 1) := by decide +kernel
theorem dM_clear_23 : decode cM_clear 23 = .ok (.iload_n 1, 1) := by decide +kernel
theorem dM_clear_24 : decode cM_clear 24 = .ok (.bipush 12, 2) := by decide +kernel
theorem dM_clear_26 : decode cM_clear 26 = .ok (.if_icmp .ge 23, 3) := by decide +kernel
theorem dM_clear_29 : decode cM_clear 29 = .ok (.aload_n 0, 1) := by decide +kernel
theorem dM_clear_30 : decode cM_clear 30 = .ok (.getfield 83, 3) := by decide +kernel
theorem dM_clear_33 : decode cM_clear 33 = .ok (.iload_n 1, 1) := by decide +kernel
theorem dM_clear_34 : decode cM_clear 34 = .ok (.iconst 0, 1) := by decide +kernel
theorem dM_clear_35 : decode cM_clear 35 = .ok (.iastore, 1) := by decide +kernel
theorem dM_clear_36 : decode cM_clear 36 = .ok (.aload_n 0, 1) := by decide +kernel
theorem dM_clear_37 : decode cM_clear 37 = .ok (.getfield 89, 3) := by decide +kernel
theorem dM_clear_40 : decode cM_clear 40 = .ok (.iload_n 1, 1) := by decide +kernel
theorem dM_clear_41 : decode cM_clear 41 = .ok (.iconst 0, 1) := by decide +kernel
theorem dM_clear_42 : decode cM_clear 42 = .ok (.iastore, 1) := by decide +kernel
theorem dM_clear_43 : decode cM_clear 43 = .ok (.iinc 1 1, 3) := by decide +kernel
theorem dM_clear_46 : decode cM_clear 46 = .ok (.goto (-23), 3) := by decide +kernel
theorem dM_clear_49 : decode cM_clear 49 = .ok (.iconst 0, 1) := by decide +kernel
theorem dM_clear_50 : decode cM_clear 50 = .ok (.istore_n 1, 1) := by decide +kernel
theorem dM_clear_51 : decode cM_clear 51 = .ok (.iload_n 1, 1) := by decide +kernel
theorem dM_clear_52 : decode cM_clear 52 = .ok (.sipush 200, 3) := by decide +kernel
theorem dM_clear_55 : decode cM_clear 55 = .ok (.if_icmp .ge 16, 3) := by decide +kernel
theorem dM_clear_58 : decode cM_clear 58 = .ok (.aload_n 0, 1) := by decide +kernel
theorem dM_clear_59 : decode cM_clear 59 = .ok (.getfield 86, 3) := by decide +kernel
theorem dM_clear_62 : decode cM_clear 62 = .ok (.iload_n 1, 1) := by decide +kernel
theorem dM_clear_63 : decode cM_clear 63 = .ok (.iconst 0, 1) := by decide +kernel
theorem dM_clear_64 : decode cM_clear 64 = .ok (.iastore, 1) := by decide +kernel
theorem dM_clear_65 : decode cM_clear 65 = .ok (.iinc 1 1, 3) := by decide +kernel
theorem dM_clear_68 : decode cM_clear 68 = .ok (.goto (-17), 3) := by decide +kernel
theorem dM_clear_71 : decode cM_clear 71 = .ok (.aload_n 0, 1) := by decide +kernel
theorem dM_clear_72 : decode cM_clear 72 = .ok (.iconst 0, 1) := by decide +kernel
theorem dM_clear_73 : decode cM_clear 73 = .ok (.putfield 191, 3) := by decide +kernel
theorem dM_clear_76 : decode cM_clear 76 = .ok (.aload_n 0, 1) := by decide +kernel
theorem dM_clear_77 : decode cM_clear 77 = .ok (.iconst 0, 1) := by decide +kernel
theorem dM_clear_78 : decode cM_clear 78 = .ok (.putfield 200, 3) := by decide +kernel
theorem dM_clear_81 : decode cM_clear 81 = .ok (.aload_n 0, 1) := by decide +kernel
theorem dM_clear_82 : decode cM_clear 82 = .ok (.iconst 0, 1) := by decide +kernel
theorem dM_clear_83 : decode cM_clear 83 = .ok (.putfield 182, 3) := by decide +kernel
theorem dM_clear_86 : decode cM_clear 86 = .ok (.return_, 1) := by decide +kernel
end
section
/-! rows that decode, O -/
theorem dO_init_0 : decode cO_init 0 = .ok (.aload_n 0, 1) := by decide +kernel
theorem dO_init_1 : decode cO_init 1 = .ok (.invokespecial 3, 3) := by decide +kernel
theorem dO_init_4 : decode cO_init 4 = .ok (.aload_n 0, 1) := by decide +kernel
theorem dO_init_5 : decode cO_init 5 = .ok (.aload_n 1, 1) := by decide +kernel
theorem dO_init_6 : decode cO_init 6 = .ok (.putfield 9, 3) := by decide +kernel
theorem dO_init_9 : decode cO_init 9 = .ok (.aload_n 0, 1) := by decide +kernel
theorem dO_init_10 : decode cO_init 10 = .ok (.aload_n 2, 1) := by decide +kernel
theorem dO_init_11 : decode cO_init 11 = .ok (.putfield 15, 3) := by decide +kernel
theorem dO_init_14 : decode cO_init 14 = .ok (.aload_n 0, 1) := by decide +kernel
theorem dO_init_15 : decode cO_init 15 = .ok (.bipush 12, 2) := by decide +kernel
theorem dO_init_17 : decode cO_init 17 = .ok (.newarray .int, 2) := by decide +kernel
theorem dO_init_19 : decode cO_init 19 = .ok (.putfield 19, 3) := by decide +kernel
theorem dO_init_22 : decode cO_init 22 = .ok (.aload_n 0, 1) := by decide +kernel
theorem dO_init_23 : decode cO_init 23 = .ok (.bipush 24, 2) := by decide +kernel
theorem dO_init_25 : decode cO_init 25 = .ok (.newarray .int, 2) := by decide +kernel
theorem dO_init_27 : decode cO_init 27 = .ok (.putfield 23, 3) := by decide +kernel
theorem dO_init_30 : decode cO_init 30 = .ok (.return_, 1) := by decide +kernel
theorem dO_measure_0 : decode cO_measure 0 = .ok (.iconst 0, 1) := by decide +kernel
theorem dO_measure_1 : decode cO_measure 1 = .ok (.istore_n 1, 1) := by decide +kernel
theorem dO_measure_2 : decode cO_measure 2 = .ok (.iload_n 1, 1) := by decide +kernel
theorem dO_measure_3 : decode cO_measure 3 = .ok (.aload_n 0, 1) := by decide +kernel
theorem dO_measure_4 : decode cO_measure 4 = .ok (.getfield 9, 3) := by decide +kernel
theorem dO_measure_7 : decode cO_measure 7 = .ok (.getfield 26, 3) := by decide +kernel
theorem dO_measure_10 : decode cO_measure 10 = .ok (.if_icmp .ge 30, 3) := by decide +kernel
theorem dO_measure_13 : decode cO_measure 13 = .ok (.aload_n 0, 1) := by decide +kernel
theorem dO_measure_14 : decode cO_measure 14 = .ok (.getfield 15, 3) := by decide +kernel
theorem dO_measure_17 : decode cO_measure 17 = .ok (.getfield 32, 3) := by decide +kernel
theorem dO_measure_20 : decode cO_measure 20 = .ok (.iload_n 1, 1) := by decide +kernel
theorem dO_measure_21 : decode cO_measure 21 = .ok (.baload, 1) := by decide +kernel
theorem dO_measure_22 : decode cO_measure 22 = .ok (.ifCond .eq 12, 3) := by decide +kernel
theorem dO_measure_25 : decode cO_measure 25 = .ok (.aload_n 0, 1) := by decide +kernel
theorem dO_measure_26 : decode cO_measure 26 = .ok (.aload_n 0, 1) := by decide +kernel
theorem dO_measure_27 : decode cO_measure 27 = .ok (.iload_n 1, 1) := by decide +kernel
theorem dO_measure_28 : decode cO_measure 28 = .ok (.invokevirtual 38, 3) := by decide +kernel
theorem dO_measure_31 : decode cO_measure 31 = .ok (.invokevirtual 42, 3) := by decide +kernel
theorem dO_measure_34 : decode cO_measure 34 = .ok (.iinc 1 1, 3) := by decide +kernel
theorem dO_measure_37 : decode cO_measure 37 = .ok (.goto (-35), 3) := by decide +kernel
theorem dO_measure_40 : decode cO_measure 40 = .ok (.aload_n 0, 1) := by decide +kernel
theorem dO_measure_41 : decode cO_measure 41 = .ok (.invokevirtual 46, 3) := by decide +kernel
theorem dO_measure_44 : decode cO_measure 44 = .ok (.return_, 1) := by decide +kernel
theorem dO_loopOf_0 : decode cO_loopOf 0 = .ok (.aload_n 0, 1) := by decide +kernel
theorem dO_loopOf_1 : decode cO_loopOf 1 = .ok (.getfield 9, 3) := by decide +kernel
theorem dO_loopOf_4 : decode cO_loopOf 4 = .ok (.getfield 49, 3) := by decide +kernel
theorem dO_loopOf_7 : decode cO_loopOf 7 = .ok (.iload_n 1, 1) := by decide +kernel
theorem dO_loopOf_8 : decode cO_loopOf 8 = .ok (.iaload, 1) := by decide +kernel
theorem dO_loopOf_9 : decode cO_loopOf 9 = .ok (.istore_n 2, 1) := by decide +kernel
theorem dO_loopOf_10 : decode cO_loopOf 10 = .ok (.iload_n 2, 1) := by decide +kernel
theorem dO_loopOf_11 : decode cO_loopOf 11 = .ok (.invokestatic 52, 3) := by decide +kernel
theorem dO_loopOf_14 : decode cO_loopOf 14 = .ok (.aload_n 0, 1) := by decide +kernel
theorem dO_loopOf_15 : decode cO_loopOf 15 = .ok (.getfield 9, 3) := by decide +kernel
theorem dO_loopOf_18 : decode cO_loopOf 18 = .ok (.aload_n 0, 1) := by decide +kernel
theorem dO_loopOf_19 : decode cO_loopOf 19 = .ok (.getfield 9, 3) := by decide +kernel
theorem dO_loopOf_22 : decode cO_loopOf 22 = .ok (.getfield 55, 3) := by decide +kernel
theorem dO_loopOf_25 : decode cO_loopOf 25 = .ok (.iload_n 1, 1) := by decide +kernel
theorem dO_loopOf_26 : decode cO_loopOf 26 = .ok (.iaload, 1) := by decide +kernel
theorem dO_loopOf_27 : decode cO_loopOf 27 = .ok (.iload_n 2, 1) := by decide +kernel
theorem dO_loopOf_28 : decode cO_loopOf 28 = .ok (.invokevirtual 58, 3) := by decide +kernel
theorem dO_loopOf_31 : decode cO_loopOf 31 = .ok (.ior, 1) := by decide +kernel
theorem dO_loopOf_32 : decode cO_loopOf 32 = .ok (.ireturn, 1) := by decide +kernel
theorem dO_deepen_0 : decode cO_deepen 0 = .ok (.iconst 0, 1) := by decide +kernel
theorem dO_deepen_1 : decode cO_deepen 1 = .ok (.istore_n 2, 1) := by decide +kernel
theorem dO_deepen_2 : decode cO_deepen 2 = .ok (.iload_n 2, 1) := by decide +kernel
theorem dO_deepen_3 : decode cO_deepen 3 = .ok (.aload_n 0, 1) := by decide +kernel
theorem dO_deepen_4 : decode cO_deepen 4 = .ok (.getfield 9, 3) := by decide +kernel
theorem dO_deepen_7 : decode cO_deepen 7 = .ok (.getfield 62, 3) := by decide +kernel
theorem dO_deepen_10 : decode cO_deepen 10 = .ok (.if_icmp .ge 27, 3) := by decide +kernel
theorem dO_deepen_13 : decode cO_deepen 13 = .ok (.iload_n 1, 1) := by decide +kernel
theorem dO_deepen_14 : decode cO_deepen 14 = .ok (.iload_n 2, 1) := by decide +kernel
theorem dO_deepen_15 : decode cO_deepen 15 = .ok (.invokestatic 65, 3) := by decide +kernel
theorem dO_deepen_18 : decode cO_deepen 18 = .ok (.ifCond .eq 13, 3) := by decide +kernel
theorem dO_deepen_21 : decode cO_deepen 21 = .ok (.aload_n 0, 1) := by decide +kernel
theorem dO_deepen_22 : decode cO_deepen 22 = .ok (.getfield 19, 3) := by decide +kernel
theorem dO_deepen_25 : decode cO_deepen 25 = .ok (.iload_n 2, 1) := by decide +kernel
theorem dO_deepen_26 : decode cO_deepen 26 = .ok (.dup2, 1) := by decide +kernel
theorem dO_deepen_27 : decode cO_deepen 27 = .ok (.iaload, 1) := by decide +kernel
theorem dO_deepen_28 : decode cO_deepen 28 = .ok (.iconst 1, 1) := by decide +kernel
theorem dO_deepen_29 : decode cO_deepen 29 = .ok (.iadd, 1) := by decide +kernel
theorem dO_deepen_30 : decode cO_deepen 30 = .ok (.iastore, 1) := by decide +kernel
theorem dO_deepen_31 : decode cO_deepen 31 = .ok (.iinc 2 1, 3) := by decide +kernel
theorem dO_deepen_34 : decode cO_deepen 34 = .ok (.goto (-32), 3) := by decide +kernel
theorem dO_deepen_37 : decode cO_deepen 37 = .ok (.return_, 1) := by decide +kernel
theorem dO_weightOf_0 : decode cO_weightOf 0 = .ok (.aload_n 0, 1) := by decide +kernel
theorem dO_weightOf_1 : decode cO_weightOf 1 = .ok (.getfield 19, 3) := by decide +kernel
theorem dO_weightOf_4 : decode cO_weightOf 4 = .ok (.aload_n 0, 1) := by decide +kernel
theorem dO_weightOf_5 : decode cO_weightOf 5 = .ok (.getfield 9, 3) := by decide +kernel
theorem dO_weightOf_8 : decode cO_weightOf 8 = .ok (.getfield 55, 3) := by decide +kernel
theorem dO_weightOf_11 : decode cO_weightOf 11 = .ok (.iload_n 1, 1) := by decide +kernel
theorem dO_weightOf_12 : decode cO_weightOf 12 = .ok (.iaload, 1) := by decide +kernel
theorem dO_weightOf_13 : decode cO_weightOf 13 = .ok (.iaload, 1) := by decide +kernel
theorem dO_weightOf_14 : decode cO_weightOf 14 = .ok (.aload_n 0, 1) := by decide +kernel
theorem dO_weightOf_15 : decode cO_weightOf 15 = .ok (.getfield 19, 3) := by decide +kernel
theorem dO_weightOf_18 : decode cO_weightOf 18 = .ok (.aload_n 0, 1) := by decide +kernel
theorem dO_weightOf_19 : decode cO_weightOf 19 = .ok (.getfield 9, 3) := by decide +kernel
theorem dO_weightOf_22 : decode cO_weightOf 22 = .ok (.getfield 49, 3) := by decide +kernel
theorem dO_weightOf_25 : decode cO_weightOf 25 = .ok (.iload_n 1, 1) := by decide +kernel
theorem dO_weightOf_26 : decode cO_weightOf 26 = .ok (.iaload, 1) := by decide +kernel
theorem dO_weightOf_27 : decode cO_weightOf 27 = .ok (.iaload, 1) := by decide +kernel
theorem dO_weightOf_28 : decode cO_weightOf 28 = .ok (.invokestatic 69, 3) := by decide +kernel
theorem dO_weightOf_31 : decode cO_weightOf 31 = .ok (.ireturn, 1) := by decide +kernel
theorem dO_putInOrder_0 : decode cO_putInOrder 0 = .ok (.iconst 0, 1) := by decide +kernel
theorem dO_putInOrder_1 : decode cO_putInOrder 1 = .ok (.istore_n 1, 1) := by decide +kernel
theorem dO_putInOrder_2 : decode cO_putInOrder 2 = .ok (.aload_n 0, 1) := by decide +kernel
theorem dO_putInOrder_3 : decode cO_putInOrder 3 = .ok (.getfield 9, 3) := by decide +kernel
theorem dO_putInOrder_6 : decode cO_putInOrder 6 = .ok (.getfield 26, 3) := by decide +kernel
theorem dO_putInOrder_9 : decode cO_putInOrder 9 = .ok (.istore_n 2, 1) := by decide +kernel
theorem dO_putInOrder_10 : decode cO_putInOrder 10 = .ok (.iload_n 2, 1) := by decide +kernel
theorem dO_putInOrder_11 : decode cO_putInOrder 11 = .ok (.ifCond .lt 47, 3) := by decide +kernel
theorem dO_putInOrder_14 : decode cO_putInOrder 14 = .ok (.iconst 0, 1) := by decide +kernel
theorem dO_putInOrder_15 : decode cO_putInOrder 15 = .ok (.istore_n 3, 1) := by decide +kernel
theorem dO_putInOrder_16 : decode cO_putInOrder 16 = .ok (.iload_n 3, 1) := by decide +kernel
theorem dO_putInOrder_17 : decode cO_putInOrder 17 = .ok (.aload_n 0, 1) := by decide +kernel
theorem dO_putInOrder_18 : decode cO_putInOrder 18 = .ok (.getfield 9, 3) := by decide +kernel
theorem dO_putInOrder_21 : decode cO_putInOrder 21 = .ok (.getfield 26, 3) := by decide +kernel
theorem dO_putInOrder_24 : decode cO_putInOrder 24 = .ok (.if_icmp .ge 28, 3) := by decide +kernel
theorem dO_putInOrder_27 : decode cO_putInOrder 27 = .ok (.aload_n 0, 1) := by decide +kernel
theorem dO_putInOrder_28 : decode cO_putInOrder 28 = .ok (.iload_n 3, 1) := by decide +kernel
theorem dO_putInOrder_29 : decode cO_putInOrder 29 = .ok (.invokevirtual 74, 3) := by decide +kernel
theorem dO_putInOrder_32 : decode cO_putInOrder 32 = .ok (.iload_n 2, 1) := by decide +kernel
theorem dO_putInOrder_33 : decode cO_putInOrder 33 = .ok (.if_icmp .ne 13, 3) := by decide +kernel
theorem dO_putInOrder_36 : decode cO_putInOrder 36 = .ok (.aload_n 0, 1) := by decide +kernel
theorem dO_putInOrder_37 : decode cO_putInOrder 37 = .ok (.getfield 23, 3) := by decide +kernel
theorem dO_putInOrder_40 : decode cO_putInOrder 40 = .ok (.iload_n 1, 1) := by decide +kernel
theorem dO_putInOrder_41 : decode cO_putInOrder 41 = .ok (.iload_n 3, 1) := by decide +kernel
theorem dO_putInOrder_42 : decode cO_putInOrder 42 = .ok (.iastore, 1) := by decide +kernel
theorem dO_putInOrder_43 : decode cO_putInOrder 43 = .ok (.iinc 1 1, 3) := by decide +kernel
theorem dO_putInOrder_46 : decode cO_putInOrder 46 = .ok (.iinc 3 1, 3) := by decide +kernel
theorem dO_putInOrder_49 : decode cO_putInOrder 49 = .ok (.goto (-33), 3) := by decide +kernel
theorem dO_putInOrder_52 : decode cO_putInOrder 52 = .ok (.iinc 2 (-1), 3) := by decide +kernel
theorem dO_putInOrder_55 : decode cO_putInOrder 55 = .ok (.goto (-45), 3) := by decide +kernel
theorem dO_putInOrder_58 : decode cO_putInOrder 58 = .ok (.return_, 1) := by decide +kernel
end
section
/-! rows that decode, S -/
theorem dS_init_0 : decode cS_init 0 = .ok (.aload_n 0, 1) := by decide +kernel
theorem dS_init_1 : decode cS_init 1 = .ok (.invokespecial 3, 3) := by decide +kernel
theorem dS_init_4 : decode cS_init 4 = .ok (.aload_n 0, 1) := by decide +kernel
theorem dS_init_5 : decode cS_init 5 = .ok (.aload_n 1, 1) := by decide +kernel
theorem dS_init_6 : decode cS_init 6 = .ok (.putfield 9, 3) := by decide +kernel
theorem dS_init_9 : decode cS_init 9 = .ok (.aload_n 0, 1) := by decide +kernel
theorem dS_init_10 : decode cS_init 10 = .ok (.bipush 24, 2) := by decide +kernel
theorem dS_init_12 : decode cS_init 12 = .ok (.newarray .boolean, 2) := by decide +kernel
theorem dS_init_14 : decode cS_init 14 = .ok (.putfield 15, 3) := by decide +kernel
theorem dS_init_17 : decode cS_init 17 = .ok (.aload_n 0, 1) := by decide +kernel
theorem dS_init_18 : decode cS_init 18 = .ok (.bipush 12, 2) := by decide +kernel
theorem dS_init_20 : decode cS_init 20 = .ok (.newarray .int, 2) := by decide +kernel
theorem dS_init_22 : decode cS_init 22 = .ok (.putfield 19, 3) := by decide +kernel
theorem dS_init_25 : decode cS_init 25 = .ok (.aload_n 0, 1) := by decide +kernel
theorem dS_init_26 : decode cS_init 26 = .ok (.bipush 12, 2) := by decide +kernel
theorem dS_init_28 : decode cS_init 28 = .ok (.newarray .int, 2) := by decide +kernel
theorem dS_init_30 : decode cS_init 30 = .ok (.putfield 23, 3) := by decide +kernel
theorem dS_init_33 : decode cS_init 33 = .ok (.aload_n 0, 1) := by decide +kernel
theorem dS_init_34 : decode cS_init 34 = .ok (.bipush 12, 2) := by decide +kernel
theorem dS_init_36 : decode cS_init 36 = .ok (.newarray .int, 2) := by decide +kernel
theorem dS_init_38 : decode cS_init 38 = .ok (.putfield 26, 3) := by decide +kernel
theorem dS_init_41 : decode cS_init 41 = .ok (.aload_n 0, 1) := by decide +kernel
theorem dS_init_42 : decode cS_init 42 = .ok (.iconst 0, 1) := by decide +kernel
theorem dS_init_43 : decode cS_init 43 = .ok (.putfield 29, 3) := by decide +kernel
theorem dS_init_46 : decode cS_init 46 = .ok (.aload_n 0, 1) := by decide +kernel
theorem dS_init_47 : decode cS_init 47 = .ok (.iconst 0, 1) := by decide +kernel
theorem dS_init_48 : decode cS_init 48 = .ok (.putfield 33, 3) := by decide +kernel
theorem dS_init_51 : decode cS_init 51 = .ok (.aload_n 0, 1) := by decide +kernel
theorem dS_init_52 : decode cS_init 52 = .ok (.iconst 0, 1) := by decide +kernel
theorem dS_init_53 : decode cS_init 53 = .ok (.putfield 36, 3) := by decide +kernel
theorem dS_init_56 : decode cS_init 56 = .ok (.return_, 1) := by decide +kernel
theorem dS_metAll_0 : decode cS_metAll 0 = .ok (.aload_n 0, 1) := by decide +kernel
theorem dS_metAll_1 : decode cS_metAll 1 = .ok (.getfield 29, 3) := by decide +kernel
theorem dS_metAll_4 : decode cS_metAll 4 = .ok (.aload_n 0, 1) := by decide +kernel
theorem dS_metAll_5 : decode cS_metAll 5 = .ok (.getfield 9, 3) := by decide +kernel
theorem dS_metAll_8 : decode cS_metAll 8 = .ok (.invokevirtual 39, 3) := by decide +kernel
theorem dS_metAll_11 : decode cS_metAll 11 = .ok (.if_icmp .ne 7, 3) := by decide +kernel
theorem dS_metAll_14 : decode cS_metAll 14 = .ok (.iconst 1, 1) := by decide +kernel
theorem dS_metAll_15 : decode cS_metAll 15 = .ok (.goto 4, 3) := by decide +kernel
theorem dS_metAll_18 : decode cS_metAll 18 = .ok (.iconst 0, 1) := by decide +kernel
theorem dS_metAll_19 : decode cS_metAll 19 = .ok (.ireturn, 1) := by decide +kernel
theorem dS_explore_0 : decode cS_explore 0 = .ok (.aload_n 0, 1) := by decide +kernel
theorem dS_explore_1 : decode cS_explore 1 = .ok (.iconst 0, 1) := by decide +kernel
theorem dS_explore_2 : decode cS_explore 2 = .ok (.putfield 29, 3) := by decide +kernel
theorem dS_explore_5 : decode cS_explore 5 = .ok (.aload_n 0, 1) := by decide +kernel
theorem dS_explore_6 : decode cS_explore 6 = .ok (.iconst 0, 1) := by decide +kernel
theorem dS_explore_7 : decode cS_explore 7 = .ok (.putfield 33, 3) := by decide +kernel
theorem dS_explore_10 : decode cS_explore 10 = .ok (.aload_n 0, 1) := by decide +kernel
theorem dS_explore_11 : decode cS_explore 11 = .ok (.iconst 0, 1) := by decide +kernel
theorem dS_explore_12 : decode cS_explore 12 = .ok (.putfield 36, 3) := by decide +kernel
theorem dS_explore_15 : decode cS_explore 15 = .ok (.iconst 0, 1) := by decide +kernel
theorem dS_explore_16 : decode cS_explore 16 = .ok (.istore_n 1, 1) := by decide +kernel
theorem dS_explore_17 : decode cS_explore 17 = .ok (.aload_n 0, 1) := by decide +kernel
theorem dS_explore_18 : decode cS_explore 18 = .ok (.iconst 0, 1) := by decide +kernel
theorem dS_explore_19 : decode cS_explore 19 = .ok (.invokevirtual 45, 3) := by decide +kernel
theorem dS_explore_22 : decode cS_explore 22 = .ok (.aload_n 0, 1) := by decide +kernel
theorem dS_explore_23 : decode cS_explore 23 = .ok (.getfield 9, 3) := by decide +kernel
theorem dS_explore_26 : decode cS_explore 26 = .ok (.getfield 49, 3) := by decide +kernel
theorem dS_explore_29 : decode cS_explore 29 = .ok (.aload_n 0, 1) := by decide +kernel
theorem dS_explore_30 : decode cS_explore 30 = .ok (.getfield 9, 3) := by decide +kernel
theorem dS_explore_33 : decode cS_explore 33 = .ok (.getfield 52, 3) := by decide +kernel
theorem dS_explore_36 : decode cS_explore 36 = .ok (.iadd, 1) := by decide +kernel
theorem dS_explore_37 : decode cS_explore 37 = .ok (.istore_n 2, 1) := by decide +kernel
theorem dS_explore_38 : decode cS_explore 38 = .ok (.iconst 0, 1) := by decide +kernel
theorem dS_explore_39 : decode cS_explore 39 = .ok (.istore_n 3, 1) := by decide +kernel
theorem dS_explore_40 : decode cS_explore 40 = .ok (.iload_n 3, 1) := by decide +kernel
theorem dS_explore_41 : decode cS_explore 41 = .ok (.iload_n 2, 1) := by decide +kernel
theorem dS_explore_42 : decode cS_explore 42 = .ok (.if_icmp .ge 109, 3) := by decide +kernel
theorem dS_explore_45 : decode cS_explore 45 = .ok (.aload_n 0, 1) := by decide +kernel
theorem dS_explore_46 : decode cS_explore 46 = .ok (.getfield 36, 3) := by decide +kernel
theorem dS_explore_49 : decode cS_explore 49 = .ok (.ifCond .le 102, 3) := by decide +kernel
theorem dS_explore_52 : decode cS_explore 52 = .ok (.aload_n 0, 1) := by decide +kernel
theorem dS_explore_53 : decode cS_explore 53 = .ok (.getfield 23, 3) := by decide +kernel
theorem dS_explore_56 : decode cS_explore 56 = .ok (.aload_n 0, 1) := by decide +kernel
theorem dS_explore_57 : decode cS_explore 57 = .ok (.getfield 36, 3) := by decide +kernel
theorem dS_explore_60 : decode cS_explore 60 = .ok (.iconst 1, 1) := by decide +kernel
theorem dS_explore_61 : decode cS_explore 61 = .ok (.isub, 1) := by decide +kernel
theorem dS_explore_62 : decode cS_explore 62 = .ok (.iaload, 1) := by decide +kernel
theorem dS_explore_63 : decode cS_explore 63 = .ok (.istore 4, 2) := by decide +kernel
theorem dS_explore_65 : decode cS_explore 65 = .ok (.aload_n 0, 1) := by decide +kernel
theorem dS_explore_66 : decode cS_explore 66 = .ok (.getfield 9, 3) := by decide +kernel
theorem dS_explore_69 : decode cS_explore 69 = .ok (.iload 4, 2) := by decide +kernel
theorem dS_explore_71 : decode cS_explore 71 = .ok (.aload_n 0, 1) := by decide +kernel
theorem dS_explore_72 : decode cS_explore 72 = .ok (.getfield 26, 3) := by decide +kernel
theorem dS_explore_75 : decode cS_explore 75 = .ok (.iload 4, 2) := by decide +kernel
theorem dS_explore_77 : decode cS_explore 77 = .ok (.iaload, 1) := by decide +kernel
theorem dS_explore_78 : decode cS_explore 78 = .ok (.invokevirtual 55, 3) := by decide +kernel
theorem dS_explore_81 : decode cS_explore 81 = .ok (.istore 5, 2) := by decide +kernel
theorem dS_explore_83 : decode cS_explore 83 = .ok (.iload 5, 2) := by decide +kernel
theorem dS_explore_85 : decode cS_explore 85 = .ok (.ifCond .ge 43, 3) := by decide +kernel
theorem dS_explore_88 : decode cS_explore 88 = .ok (.aload_n 0, 1) := by decide +kernel
theorem dS_explore_89 : decode cS_explore 89 = .ok (.dup, 1) := by decide +kernel
theorem dS_explore_90 : decode cS_explore 90 = .ok (.getfield 36, 3) := by decide +kernel
theorem dS_explore_93 : decode cS_explore 93 = .ok (.iconst 1, 1) := by decide +kernel
theorem dS_explore_94 : decode cS_explore 94 = .ok (.isub, 1) := by decide +kernel
theorem dS_explore_95 : decode cS_explore 95 = .ok (.putfield 36, 3) := by decide +kernel
theorem dS_explore_98 : decode cS_explore 98 = .ok (.aload_n 0, 1) := by decide +kernel
theorem dS_explore_99 : decode cS_explore 99 = .ok (.dup, 1) := by decide +kernel
theorem dS_explore_100 : decode cS_explore 100 = .ok (.getfield 33, 3) := by decide +kernel
theorem dS_explore_103 : decode cS_explore 103 = .ok (.iload 4, 2) := by decide +kernel
theorem dS_explore_105 : decode cS_explore 105 = .ok (.invokestatic 59, 3) := by decide +kernel
theorem dS_explore_108 : decode cS_explore 108 = .ok (.iconst (-1), 1) := by decide +kernel
theorem dS_explore_109 : decode cS_explore 109 = .ok (.ixor, 1) := by decide +kernel
theorem dS_explore_110 : decode cS_explore 110 = .ok (.iand, 1) := by decide +kernel
theorem dS_explore_111 : decode cS_explore 111 = .ok (.putfield 33, 3) := by decide +kernel
theorem dS_explore_114 : decode cS_explore 114 = .ok (.aload_n 0, 1) := by decide +kernel
theorem dS_explore_115 : decode cS_explore 115 = .ok (.getfield 19, 3) := by decide +kernel
theorem dS_explore_118 : decode cS_explore 118 = .ok (.iload_n 1, 1) := by decide +kernel
theorem dS_explore_119 : decode cS_explore 119 = .ok (.iload 4, 2) := by decide +kernel
theorem dS_explore_121 : decode cS_explore 121 = .ok (.iastore, 1) := by decide +kernel
theorem dS_explore_122 : decode cS_explore 122 = .ok (.iinc 1 1, 3) := by decide +kernel
theorem dS_explore_125 : decode cS_explore 125 = .ok (.goto 20, 3) := by decide +kernel
theorem dS_explore_128 : decode cS_explore 128 = .ok (.aload_n 0, 1) := by decide +kernel
theorem dS_explore_129 : decode cS_explore 129 = .ok (.getfield 26, 3) := by decide +kernel
theorem dS_explore_132 : decode cS_explore 132 = .ok (.iload 4, 2) := by decide +kernel
theorem dS_explore_134 : decode cS_explore 134 = .ok (.iload 5, 2) := by decide +kernel
theorem dS_explore_136 : decode cS_explore 136 = .ok (.iconst 1, 1) := by decide +kernel
theorem dS_explore_137 : decode cS_explore 137 = .ok (.iadd, 1) := by decide +kernel
theorem dS_explore_138 : decode cS_explore 138 = .ok (.iastore, 1) := by decide +kernel
theorem dS_explore_139 : decode cS_explore 139 = .ok (.aload_n 0, 1) := by decide +kernel
theorem dS_explore_140 : decode cS_explore 140 = .ok (.iload 5, 2) := by decide +kernel
theorem dS_explore_142 : decode cS_explore 142 = .ok (.invokevirtual 63, 3) := by decide +kernel
theorem dS_explore_145 : decode cS_explore 145 = .ok (.iinc 3 1, 3) := by decide +kernel
theorem dS_explore_148 : decode cS_explore 148 = .ok (.goto (-108), 3) := by decide +kernel
theorem dS_explore_151 : decode cS_explore 151 = .ok (.return_, 1) := by decide +kernel
theorem dS_enter_0 : decode cS_enter 0 = .ok (.aload_n 0, 1) := by decide +kernel
theorem dS_enter_1 : decode cS_enter 1 = .ok (.dup, 1) := by decide +kernel
theorem dS_enter_2 : decode cS_enter 2 = .ok (.getfield 29, 3) := by decide +kernel
theorem dS_enter_5 : decode cS_enter 5 = .ok (.iload_n 1, 1) := by decide +kernel
theorem dS_enter_6 : decode cS_enter 6 = .ok (.invokestatic 59, 3) := by decide +kernel
theorem dS_enter_9 : decode cS_enter 9 = .ok (.ior, 1) := by decide +kernel
theorem dS_enter_10 : decode cS_enter 10 = .ok (.putfield 29, 3) := by decide +kernel
theorem dS_enter_13 : decode cS_enter 13 = .ok (.aload_n 0, 1) := by decide +kernel
theorem dS_enter_14 : decode cS_enter 14 = .ok (.dup, 1) := by decide +kernel
theorem dS_enter_15 : decode cS_enter 15 = .ok (.getfield 33, 3) := by decide +kernel
theorem dS_enter_18 : decode cS_enter 18 = .ok (.iload_n 1, 1) := by decide +kernel
theorem dS_enter_19 : decode cS_enter 19 = .ok (.invokestatic 59, 3) := by decide +kernel
theorem dS_enter_22 : decode cS_enter 22 = .ok (.ior, 1) := by decide +kernel
theorem dS_enter_23 : decode cS_enter 23 = .ok (.putfield 33, 3) := by decide +kernel
theorem dS_enter_26 : decode cS_enter 26 = .ok (.aload_n 0, 1) := by decide +kernel
theorem dS_enter_27 : decode cS_enter 27 = .ok (.getfield 26, 3) := by decide +kernel
theorem dS_enter_30 : decode cS_enter 30 = .ok (.iload_n 1, 1) := by decide +kernel
theorem dS_enter_31 : decode cS_enter 31 = .ok (.iconst 0, 1) := by decide +kernel
theorem dS_enter_32 : decode cS_enter 32 = .ok (.iastore, 1) := by decide +kernel
theorem dS_enter_33 : decode cS_enter 33 = .ok (.aload_n 0, 1) := by decide +kernel
theorem dS_enter_34 : decode cS_enter 34 = .ok (.getfield 23, 3) := by decide +kernel
theorem dS_enter_37 : decode cS_enter 37 = .ok (.aload_n 0, 1) := by decide +kernel
theorem dS_enter_38 : decode cS_enter 38 = .ok (.getfield 36, 3) := by decide +kernel
theorem dS_enter_41 : decode cS_enter 41 = .ok (.iload_n 1, 1) := by decide +kernel
theorem dS_enter_42 : decode cS_enter 42 = .ok (.iastore, 1) := by decide +kernel
theorem dS_enter_43 : decode cS_enter 43 = .ok (.aload_n 0, 1) := by decide +kernel
theorem dS_enter_44 : decode cS_enter 44 = .ok (.dup, 1) := by decide +kernel
theorem dS_enter_45 : decode cS_enter 45 = .ok (.getfield 36, 3) := by decide +kernel
theorem dS_enter_48 : decode cS_enter 48 = .ok (.iconst 1, 1) := by decide +kernel
theorem dS_enter_49 : decode cS_enter 49 = .ok (.iadd, 1) := by decide +kernel
theorem dS_enter_50 : decode cS_enter 50 = .ok (.putfield 36, 3) := by decide +kernel
theorem dS_enter_53 : decode cS_enter 53 = .ok (.return_, 1) := by decide +kernel
theorem dS_lookAt_0 : decode cS_lookAt 0 = .ok (.aload_n 0, 1) := by decide +kernel
theorem dS_lookAt_1 : decode cS_lookAt 1 = .ok (.getfield 9, 3) := by decide +kernel
theorem dS_lookAt_4 : decode cS_lookAt 4 = .ok (.getfield 66, 3) := by decide +kernel
theorem dS_lookAt_7 : decode cS_lookAt 7 = .ok (.iload_n 1, 1) := by decide +kernel
theorem dS_lookAt_8 : decode cS_lookAt 8 = .ok (.iaload, 1) := by decide +kernel
theorem dS_lookAt_9 : decode cS_lookAt 9 = .ok (.istore_n 2, 1) := by decide +kernel
theorem dS_lookAt_10 : decode cS_lookAt 10 = .ok (.aload_n 0, 1) := by decide +kernel
theorem dS_lookAt_11 : decode cS_lookAt 11 = .ok (.getfield 15, 3) := by decide +kernel
theorem dS_lookAt_14 : decode cS_lookAt 14 = .ok (.iload_n 1, 1) := by decide +kernel
theorem dS_lookAt_15 : decode cS_lookAt 15 = .ok (.aload_n 0, 1) := by decide +kernel
theorem dS_lookAt_16 : decode cS_lookAt 16 = .ok (.getfield 33, 3) := by decide +kernel
theorem dS_lookAt_19 : decode cS_lookAt 19 = .ok (.iload_n 2, 1) := by decide +kernel
theorem dS_lookAt_20 : decode cS_lookAt 20 = .ok (.invokestatic 69, 3) := by decide +kernel
theorem dS_lookAt_23 : decode cS_lookAt 23 = .ok (.bastore, 1) := by decide +kernel
theorem dS_lookAt_24 : decode cS_lookAt 24 = .ok (.aload_n 0, 1) := by decide +kernel
theorem dS_lookAt_25 : decode cS_lookAt 25 = .ok (.getfield 29, 3) := by decide +kernel
theorem dS_lookAt_28 : decode cS_lookAt 28 = .ok (.iload_n 2, 1) := by decide +kernel
theorem dS_lookAt_29 : decode cS_lookAt 29 = .ok (.invokestatic 69, 3) := by decide +kernel
theorem dS_lookAt_32 : decode cS_lookAt 32 = .ok (.ifCond .ne 8, 3) := by decide +kernel
theorem dS_lookAt_35 : decode cS_lookAt 35 = .ok (.aload_n 0, 1) := by decide +kernel
theorem dS_lookAt_36 : decode cS_lookAt 36 = .ok (.iload_n 2, 1) := by decide +kernel
theorem dS_lookAt_37 : decode cS_lookAt 37 = .ok (.invokevirtual 45, 3) := by decide +kernel
theorem dS_lookAt_40 : decode cS_lookAt 40 = .ok (.return_, 1) := by decide +kernel
end
section
/-! rows that decode, T -/
theorem dT_init_0 : decode cT_init 0 = .ok (.aload_n 0, 1) := by decide +kernel
theorem dT_init_1 : decode cT_init 1 = .ok (.invokespecial 3, 3) := by decide +kernel
theorem dT_init_4 : decode cT_init 4 = .ok (.aload_n 0, 1) := by decide +kernel
theorem dT_init_5 : decode cT_init 5 = .ok (.aload_n 1, 1) := by decide +kernel
theorem dT_init_6 : decode cT_init 6 = .ok (.putfield 9, 3) := by decide +kernel
theorem dT_init_9 : decode cT_init 9 = .ok (.aload_n 0, 1) := by decide +kernel
theorem dT_init_10 : decode cT_init 10 = .ok (.bipush 24, 2) := by decide +kernel
theorem dT_init_12 : decode cT_init 12 = .ok (.newarray .boolean, 2) := by decide +kernel
theorem dT_init_14 : decode cT_init 14 = .ok (.putfield 15, 3) := by decide +kernel
theorem dT_init_17 : decode cT_init 17 = .ok (.aload_n 0, 1) := by decide +kernel
theorem dT_init_18 : decode cT_init 18 = .ok (.bipush 12, 2) := by decide +kernel
theorem dT_init_20 : decode cT_init 20 = .ok (.newarray .int, 2) := by decide +kernel
theorem dT_init_22 : decode cT_init 22 = .ok (.putfield 19, 3) := by decide +kernel
theorem dT_init_25 : decode cT_init 25 = .ok (.return_, 1) := by decide +kernel
theorem dT_grow_0 : decode cT_grow 0 = .ok (.iconst 0, 1) := by decide +kernel
theorem dT_grow_1 : decode cT_grow 1 = .ok (.istore_n 3, 1) := by decide +kernel
theorem dT_grow_2 : decode cT_grow 2 = .ok (.iload_n 3, 1) := by decide +kernel
theorem dT_grow_3 : decode cT_grow 3 = .ok (.aload_n 0, 1) := by decide +kernel
theorem dT_grow_4 : decode cT_grow 4 = .ok (.getfield 9, 3) := by decide +kernel
theorem dT_grow_7 : decode cT_grow 7 = .ok (.getfield 23, 3) := by decide +kernel
theorem dT_grow_10 : decode cT_grow 10 = .ok (.if_icmp .ge 16, 3) := by decide +kernel
theorem dT_grow_13 : decode cT_grow 13 = .ok (.aload_n 0, 1) := by decide +kernel
theorem dT_grow_14 : decode cT_grow 14 = .ok (.getfield 19, 3) := by decide +kernel
theorem dT_grow_17 : decode cT_grow 17 = .ok (.iload_n 3, 1) := by decide +kernel
theorem dT_grow_18 : decode cT_grow 18 = .ok (.iload_n 3, 1) := by decide +kernel
theorem dT_grow_19 : decode cT_grow 19 = .ok (.iastore, 1) := by decide +kernel
theorem dT_grow_20 : decode cT_grow 20 = .ok (.iinc 3 1, 3) := by decide +kernel
theorem dT_grow_23 : decode cT_grow 23 = .ok (.goto (-21), 3) := by decide +kernel
theorem dT_grow_26 : decode cT_grow 26 = .ok (.aload_n 0, 1) := by decide +kernel
theorem dT_grow_27 : decode cT_grow 27 = .ok (.iconst 0, 1) := by decide +kernel
theorem dT_grow_28 : decode cT_grow 28 = .ok (.iconst 1, 1) := by decide +kernel
theorem dT_grow_29 : decode cT_grow 29 = .ok (.invokevirtual 29, 3) := by decide +kernel
theorem dT_grow_32 : decode cT_grow 32 = .ok (.pop, 1) := by decide +kernel
theorem dT_grow_33 : decode cT_grow 33 = .ok (.iconst 0, 1) := by decide +kernel
theorem dT_grow_34 : decode cT_grow 34 = .ok (.istore_n 3, 1) := by decide +kernel
theorem dT_grow_35 : decode cT_grow 35 = .ok (.iload_n 3, 1) := by decide +kernel
theorem dT_grow_36 : decode cT_grow 36 = .ok (.iload_n 2, 1) := by decide +kernel
theorem dT_grow_37 : decode cT_grow 37 = .ok (.if_icmp .ge 45, 3) := by decide +kernel
theorem dT_grow_40 : decode cT_grow 40 = .ok (.aload_n 1, 1) := by decide +kernel
theorem dT_grow_41 : decode cT_grow 41 = .ok (.iload_n 3, 1) := by decide +kernel
theorem dT_grow_42 : decode cT_grow 42 = .ok (.iaload, 1) := by decide +kernel
theorem dT_grow_43 : decode cT_grow 43 = .ok (.istore 4, 2) := by decide +kernel
theorem dT_grow_45 : decode cT_grow 45 = .ok (.aload_n 0, 1) := by decide +kernel
theorem dT_grow_46 : decode cT_grow 46 = .ok (.getfield 15, 3) := by decide +kernel
theorem dT_grow_49 : decode cT_grow 49 = .ok (.iload 4, 2) := by decide +kernel
theorem dT_grow_51 : decode cT_grow 51 = .ok (.aload_n 0, 1) := by decide +kernel
theorem dT_grow_52 : decode cT_grow 52 = .ok (.aload_n 0, 1) := by decide +kernel
theorem dT_grow_53 : decode cT_grow 53 = .ok (.getfield 9, 3) := by decide +kernel
theorem dT_grow_56 : decode cT_grow 56 = .ok (.getfield 33, 3) := by decide +kernel
theorem dT_grow_59 : decode cT_grow 59 = .ok (.iload 4, 2) := by decide +kernel
theorem dT_grow_61 : decode cT_grow 61 = .ok (.iaload, 1) := by decide +kernel
theorem dT_grow_62 : decode cT_grow 62 = .ok (.aload_n 0, 1) := by decide +kernel
theorem dT_grow_63 : decode cT_grow 63 = .ok (.getfield 9, 3) := by decide +kernel
theorem dT_grow_66 : decode cT_grow 66 = .ok (.getfield 36, 3) := by decide +kernel
theorem dT_grow_69 : decode cT_grow 69 = .ok (.iload 4, 2) := by decide +kernel
theorem dT_grow_71 : decode cT_grow 71 = .ok (.iaload, 1) := by decide +kernel
theorem dT_grow_72 : decode cT_grow 72 = .ok (.invokevirtual 29, 3) := by decide +kernel
theorem dT_grow_75 : decode cT_grow 75 = .ok (.bastore, 1) := by decide +kernel
theorem dT_grow_76 : decode cT_grow 76 = .ok (.iinc 3 1, 3) := by decide +kernel
theorem dT_grow_79 : decode cT_grow 79 = .ok (.goto (-44), 3) := by decide +kernel
theorem dT_grow_82 : decode cT_grow 82 = .ok (.return_, 1) := by decide +kernel
theorem dT_join_0 : decode cT_join 0 = .ok (.aload_n 0, 1) := by decide +kernel
theorem dT_join_1 : decode cT_join 1 = .ok (.getfield 19, 3) := by decide +kernel
theorem dT_join_4 : decode cT_join 4 = .ok (.iload_n 1, 1) := by decide +kernel
theorem dT_join_5 : decode cT_join 5 = .ok (.iaload, 1) := by decide +kernel
theorem dT_join_6 : decode cT_join 6 = .ok (.istore_n 3, 1) := by decide +kernel
theorem dT_join_7 : decode cT_join 7 = .ok (.aload_n 0, 1) := by decide +kernel
theorem dT_join_8 : decode cT_join 8 = .ok (.getfield 19, 3) := by decide +kernel
theorem dT_join_11 : decode cT_join 11 = .ok (.iload_n 2, 1) := by decide +kernel
theorem dT_join_12 : decode cT_join 12 = .ok (.iaload, 1) := by decide +kernel
theorem dT_join_13 : decode cT_join 13 = .ok (.istore 4, 2) := by decide +kernel
theorem dT_join_15 : decode cT_join 15 = .ok (.iconst 0, 1) := by decide +kernel
theorem dT_join_16 : decode cT_join 16 = .ok (.istore 5, 2) := by decide +kernel
theorem dT_join_18 : decode cT_join 18 = .ok (.iload 5, 2) := by decide +kernel
theorem dT_join_20 : decode cT_join 20 = .ok (.aload_n 0, 1) := by decide +kernel
theorem dT_join_21 : decode cT_join 21 = .ok (.getfield 9, 3) := by decide +kernel
theorem dT_join_24 : decode cT_join 24 = .ok (.getfield 23, 3) := by decide +kernel
theorem dT_join_27 : decode cT_join 27 = .ok (.if_icmp .ge 29, 3) := by decide +kernel
theorem dT_join_30 : decode cT_join 30 = .ok (.aload_n 0, 1) := by decide +kernel
theorem dT_join_31 : decode cT_join 31 = .ok (.getfield 19, 3) := by decide +kernel
theorem dT_join_34 : decode cT_join 34 = .ok (.iload 5, 2) := by decide +kernel
theorem dT_join_36 : decode cT_join 36 = .ok (.iaload, 1) := by decide +kernel
theorem dT_join_37 : decode cT_join 37 = .ok (.iload 4, 2) := by decide +kernel
theorem dT_join_39 : decode cT_join 39 = .ok (.if_icmp .ne 11, 3) := by decide +kernel
theorem dT_join_42 : decode cT_join 42 = .ok (.aload_n 0, 1) := by decide +kernel
theorem dT_join_43 : decode cT_join 43 = .ok (.getfield 19, 3) := by decide +kernel
theorem dT_join_46 : decode cT_join 46 = .ok (.iload 5, 2) := by decide +kernel
theorem dT_join_48 : decode cT_join 48 = .ok (.iload_n 3, 1) := by decide +kernel
theorem dT_join_49 : decode cT_join 49 = .ok (.iastore, 1) := by decide +kernel
theorem dT_join_50 : decode cT_join 50 = .ok (.iinc 5 1, 3) := by decide +kernel
theorem dT_join_53 : decode cT_join 53 = .ok (.goto (-35), 3) := by decide +kernel
theorem dT_join_56 : decode cT_join 56 = .ok (.iload_n 3, 1) := by decide +kernel
theorem dT_join_57 : decode cT_join 57 = .ok (.iload 4, 2) := by decide +kernel
theorem dT_join_59 : decode cT_join 59 = .ok (.if_icmp .eq 7, 3) := by decide +kernel
theorem dT_join_62 : decode cT_join 62 = .ok (.iconst 1, 1) := by decide +kernel
theorem dT_join_63 : decode cT_join 63 = .ok (.goto 4, 3) := by decide +kernel
theorem dT_join_66 : decode cT_join 66 = .ok (.iconst 0, 1) := by decide +kernel
theorem dT_join_67 : decode cT_join 67 = .ok (.ireturn, 1) := by decide +kernel
theorem dT_blocksBehind_0 : decode cT_blocksBehind 0 = .ok (.iconst 0, 1) := by decide +kernel
theorem dT_blocksBehind_1 : decode cT_blocksBehind 1 = .ok (.invokestatic 39, 3) := by decide +kernel
theorem dT_blocksBehind_4 : decode cT_blocksBehind 4 = .ok (.iconst 1, 1) := by decide +kernel
theorem dT_blocksBehind_5 : decode cT_blocksBehind 5 = .ok (.invokestatic 39, 3) := by decide +kernel
theorem dT_blocksBehind_8 : decode cT_blocksBehind 8 = .ok (.ior, 1) := by decide +kernel
theorem dT_blocksBehind_9 : decode cT_blocksBehind 9 = .ok (.istore_n 2, 1) := by decide +kernel
theorem dT_blocksBehind_10 : decode cT_blocksBehind 10 = .ok (.iconst 1, 1) := by decide +kernel
theorem dT_blocksBehind_11 : decode cT_blocksBehind 11 = .ok (.istore_n 3, 1) := by decide +kernel
theorem dT_blocksBehind_12 : decode cT_blocksBehind 12 = .ok (.iload_n 3, 1) := by decide +kernel
theorem dT_blocksBehind_13 : decode cT_blocksBehind 13 = .ok (.aload_n 0, 1) := by decide +kernel
theorem dT_blocksBehind_14 : decode cT_blocksBehind 14 = .ok (.getfield 9, 3) := by decide +kernel
theorem dT_blocksBehind_17 : decode cT_blocksBehind 17 = .ok (.getfield 23, 3) := by decide +kernel
theorem dT_blocksBehind_20 : decode cT_blocksBehind 20 = .ok (.if_icmp .ge 87, 3) := by decide +kernel
theorem dT_blocksBehind_23 : decode cT_blocksBehind 23 = .ok (.iconst 0, 1) := by decide +kernel
theorem dT_blocksBehind_24 : decode cT_blocksBehind 24 = .ok (.istore 4, 2) := by decide +kernel
theorem dT_blocksBehind_26 : decode cT_blocksBehind 26 = .ok (.iload 4, 2) := by decide +kernel
theorem dT_blocksBehind_28 : decode cT_blocksBehind 28 = .ok (.aload_n 0, 1) := by decide +kernel
theorem dT_blocksBehind_29 : decode cT_blocksBehind 29 = .ok (.getfield 9, 3) := by decide +kernel
theorem dT_blocksBehind_32 : decode cT_blocksBehind 32 = .ok (.getfield 43, 3) := by decide +kernel
theorem dT_blocksBehind_35 : decode cT_blocksBehind 35 = .ok (.if_icmp .ge 66, 3) := by decide +kernel
theorem dT_blocksBehind_38 : decode cT_blocksBehind 38 = .ok (.aload_n 0, 1) := by decide +kernel
theorem dT_blocksBehind_39 : decode cT_blocksBehind 39 = .ok (.getfield 9, 3) := by decide +kernel
theorem dT_blocksBehind_42 : decode cT_blocksBehind 42 = .ok (.getfield 33, 3) := by decide +kernel
theorem dT_blocksBehind_45 : decode cT_blocksBehind 45 = .ok (.iload 4, 2) := by decide +kernel
theorem dT_blocksBehind_47 : decode cT_blocksBehind 47 = .ok (.iaload, 1) := by decide +kernel
theorem dT_blocksBehind_48 : decode cT_blocksBehind 48 = .ok (.invokestatic 39, 3) := by decide +kernel
theorem dT_blocksBehind_51 : decode cT_blocksBehind 51 = .ok (.aload_n 0, 1) := by decide +kernel
theorem dT_blocksBehind_52 : decode cT_blocksBehind 52 = .ok (.getfield 9, 3) := by decide +kernel
theorem dT_blocksBehind_55 : decode cT_blocksBehind 55 = .ok (.getfield 36, 3) := by decide +kernel
theorem dT_blocksBehind_58 : decode cT_blocksBehind 58 = .ok (.iload 4, 2) := by decide +kernel
theorem dT_blocksBehind_60 : decode cT_blocksBehind 60 = .ok (.iaload, 1) := by decide +kernel
theorem dT_blocksBehind_61 : decode cT_blocksBehind 61 = .ok (.invokestatic 39, 3) := by decide +kernel
theorem dT_blocksBehind_64 : decode cT_blocksBehind 64 = .ok (.ior, 1) := by decide +kernel
theorem dT_blocksBehind_65 : decode cT_blocksBehind 65 = .ok (.istore 5, 2) := by decide +kernel
theorem dT_blocksBehind_67 : decode cT_blocksBehind 67 = .ok (.aload_n 0, 1) := by decide +kernel
theorem dT_blocksBehind_68 : decode cT_blocksBehind 68 = .ok (.getfield 15, 3) := by decide +kernel
theorem dT_blocksBehind_71 : decode cT_blocksBehind 71 = .ok (.iload 4, 2) := by decide +kernel
theorem dT_blocksBehind_73 : decode cT_blocksBehind 73 = .ok (.baload, 1) := by decide +kernel
theorem dT_blocksBehind_74 : decode cT_blocksBehind 74 = .ok (.ifCond .eq 21, 3) := by decide +kernel
theorem dT_blocksBehind_77 : decode cT_blocksBehind 77 = .ok (.iload 4, 2) := by decide +kernel
theorem dT_blocksBehind_79 : decode cT_blocksBehind 79 = .ok (.iload_n 1, 1) := by decide +kernel
theorem dT_blocksBehind_80 : decode cT_blocksBehind 80 = .ok (.if_icmp .eq 15, 3) := by decide +kernel
theorem dT_blocksBehind_83 : decode cT_blocksBehind 83 = .ok (.iload_n 2, 1) := by decide +kernel
theorem dT_blocksBehind_84 : decode cT_blocksBehind 84 = .ok (.iload 5, 2) := by decide +kernel
theorem dT_blocksBehind_86 : decode cT_blocksBehind 86 = .ok (.iand, 1) := by decide +kernel
theorem dT_blocksBehind_87 : decode cT_blocksBehind 87 = .ok (.ifCond .eq 8, 3) := by decide +kernel
theorem dT_blocksBehind_90 : decode cT_blocksBehind 90 = .ok (.iload_n 2, 1) := by decide +kernel
theorem dT_blocksBehind_91 : decode cT_blocksBehind 91 = .ok (.iload 5, 2) := by decide +kernel
theorem dT_blocksBehind_93 : decode cT_blocksBehind 93 = .ok (.ior, 1) := by decide +kernel
theorem dT_blocksBehind_94 : decode cT_blocksBehind 94 = .ok (.istore_n 2, 1) := by decide +kernel
theorem dT_blocksBehind_95 : decode cT_blocksBehind 95 = .ok (.iinc 4 1, 3) := by decide +kernel
theorem dT_blocksBehind_98 : decode cT_blocksBehind 98 = .ok (.goto (-72), 3) := by decide +kernel
theorem dT_blocksBehind_101 : decode cT_blocksBehind 101 = .ok (.iinc 3 1, 3) := by decide +kernel
theorem dT_blocksBehind_104 : decode cT_blocksBehind 104 = .ok (.goto (-92), 3) := by decide +kernel
theorem dT_blocksBehind_107 : decode cT_blocksBehind 107 = .ok (.aload_n 0, 1) := by decide +kernel
theorem dT_blocksBehind_108 : decode cT_blocksBehind 108 = .ok (.getfield 9, 3) := by decide +kernel
theorem dT_blocksBehind_111 : decode cT_blocksBehind 111 = .ok (.invokevirtual 46, 3) := by decide +kernel
theorem dT_blocksBehind_114 : decode cT_blocksBehind 114 = .ok (.iload_n 2, 1) := by decide +kernel
theorem dT_blocksBehind_115 : decode cT_blocksBehind 115 = .ok (.iconst (-1), 1) := by decide +kernel
theorem dT_blocksBehind_116 : decode cT_blocksBehind 116 = .ok (.ixor, 1) := by decide +kernel
theorem dT_blocksBehind_117 : decode cT_blocksBehind 117 = .ok (.iand, 1) := by decide +kernel
theorem dT_blocksBehind_118 : decode cT_blocksBehind 118 = .ok (.ireturn, 1) := by decide +kernel
end
section
/-! the walk: a family Z of places (cells and slots made so far, pc, locals, stack, world) from which the machine comes to the method's end -/
def zl_from : Nat → List (Option Value) → List (Nat × Value)
  | _, [] => []
  | k, none :: r => zl_from (k + 1) r
  | k, some v :: r => (k, v) :: zl_from (k + 1) r
theorem zl_mem : ∀ (lv : List (Option Value)) (k : Nat) (q : Nat × Value), q ∈ zl_from k lv ↔ ∃ i, q.1 = k + i ∧ lv[i]? = some (some q.2) := by
  intro lv
  induction lv with
  | nil => intro k q; simp [zl_from]
  | cons o r ih =>
    intro k q
    cases o with
    | none =>
      show q ∈ zl_from (k + 1) r ↔ _
      rw [ih]
      constructor
      · rintro ⟨i, h1, h2⟩
        exact ⟨i + 1, by omega, by simpa using h2⟩
      · rintro ⟨i, h1, h2⟩
        cases i with
        | zero => simp at h2
        | succ i => exact ⟨i, by omega, by simpa using h2⟩
    | some v =>
      show q ∈ (k, v) :: zl_from (k + 1) r ↔ _
      rw [List.mem_cons, ih]
      constructor
      · rintro (h | ⟨i, h1, h2⟩)
        · exact ⟨0, by rw [h]; rfl, by rw [h]; rfl⟩
        · exact ⟨i + 1, by omega, by simpa using h2⟩
      · rintro ⟨i, h1, h2⟩
        cases i with
        | zero =>
          left
          have h3 : some (some v) = some (some q.2) := h2
          have h4 : v = q.2 := Option.some.inj (Option.some.inj h3)
          exact Prod.ext h1 h4.symm
        | succ i => exact Or.inr ⟨i, by omega, by simpa using h2⟩
def zl_has (ls : Array Slot) (nL : Nat) (lv : List (Option Value)) : Prop := ls.size = nL ∧ lv_wf ls ∧ ∀ (i : Nat) (v : Value), lv[i]? = some (some v) → v.category = 1 ∧ ls[i]? = some (.val v)
theorem zl_to {ls : Array Slot} {nL : Nat} {lv : List (Option Value)} (h : zl_has ls nL lv) : lv_has ls nL (zl_from 0 lv) := by
  refine ⟨h.1, h.2.1, fun q hq => ?_⟩
  obtain ⟨i, h1, h2⟩ := (zl_mem lv 0 q).mp hq
  rw [show q.1 = i by omega]
  exact (h.2.2 i q.2 h2).2
theorem zl_set {ls ls' : Array Slot} {nL i : Nat} {lv : List (Option Value)} {v : Value} (h0 : zl_has ls nL lv) (hv : v.category = 1) (h : lv_has ls' nL ((i, v) :: (zl_from 0 lv).filter (fun q => !(q.1 == i) && !(q.1 + 1 == i && q.2.category == 2)))) : zl_has ls' nL (lv.set i (some v)) := by
  refine ⟨h.1, h.2.1, fun a w ha => ?_⟩
  rw [List.getElem?_set] at ha
  by_cases hia : i = a
  · rw [if_pos hia] at ha
    by_cases hl : i < lv.length
    · rw [if_pos hl] at ha
      have hw : v = w := Option.some.inj (Option.some.inj ha)
      subst hw
      subst hia
      exact ⟨hv, h.2.2 (i, v) List.mem_cons_self⟩
    · rw [if_neg hl] at ha; cases ha
  · rw [if_neg hia] at ha
    have hc := (h0.2.2 a w ha).1
    refine ⟨hc, h.2.2 (a, w) (List.mem_cons_of_mem _ (List.mem_filter.mpr ⟨(zl_mem lv 0 (a, w)).mpr ⟨a, by show a = 0 + a; omega, ha⟩, ?_⟩))⟩
    have h1 : (a == i) = false := by simp; omega
    have h2 : (w.category == 2) = false := by simp [hc]
    simp only [h1, h2, Bool.and_false, Bool.not_false, Bool.and_self]
theorem zl_get {ls : Array Slot} {nL i : Nat} {lv : List (Option Value)} {v : Value} (h : zl_has ls nL lv) (hv : lv[i]? = some (some v)) : ls[i]? = some (.val v) := (h.2.2 i v hv).2
theorem zl_less {ls : Array Slot} {nL : Nat} {lv lv' : List (Option Value)} (h : zl_has ls nL lv) (hl : ∀ (i : Nat) (v : Value), lv'[i]? = some (some v) → lv[i]? = some (some v)) : zl_has ls nL lv' := ⟨h.1, h.2.1, fun i v hv => h.2.2 i v (hl i v hv)⟩
/-- links to private members of nest mates, which no word list holds -/
def zN (NW : List (String × Nat × MethodName × String)) (U : State) : Prop := ∀ q ∈ NW, va_Nw (.methodLinkNest q.1 q.2.1 q.2.2.1 q.2.2.2) U
theorem zN.warm {NW : List (String × Nat × MethodName × String)} {s U : State} (hW : s.WarmedH U.vm) (h : zN NW s) : zN NW U := fun q hq => va_Nw.warmM hW (h q hq)
theorem zN.calling {NW : List (String × Nat × MethodName × String)} {U : State} {g : JFrame} {mk : MethodId} {a : Array Value} (h : zN NW U) : zN NW (U.calling g mk a) := fun q hq => va_Nw.same (u := U) rfl rfl (h q hq)
abbrev zF : Type := Nat → Nat → Nat → List (Option Value) → List Value → va_W → Prop
/-- a method's contract: called with av over the cells wc it returns; its answer and its cells then have E -/
def zM (l : Launch) (y : MethodName) (wy : List Cond) (rm : Room) (D : va_G) (cl : List vw_C) (tys : List (ClassId × FieldType)) (NW : List (String × Nat × MethodName × String)) (mc ms : Nat) (av : List Value) (wc : va_W) (E : Option Value → va_W → Prop) : Prop := ∀ sz : Nat, Met l y wy rm (va_Pc av (fun U => U.heap.size = sz ∧ va_P D cl wc U.heap ∧ va_K D cl tys U ∧ va_D (fun _ => True) wc ∧ zN NW U)) (fun _ st oc t => (∃ (v : Option Value) (wn : va_W), oc = .returned v ∧ E v wn ∧ va_P D cl wn t.heap ∧ va_K D cl tys t ∧ va_D (va_A wc sz) wn) ∧ va_F (va_A wc sz) st t) mc ms (va_A wc sz)
def zX (Z : zF) (l : Launch) (R : Room) (D : va_G) (cl : List vw_C) (tys : List (ClassId × FieldType)) (NW : List (String × Nat × MethodName × String)) (cc : ByteArray) (nL : Nat) (own : String) (Ts : List Cond) (mc ms : Nat) (ret : Option FieldType) (nm : String) (E : Option Value → va_W → Prop) : Prop :=
  ∃ (p : Program) (e : Env) (s : State) (m : MethodId) (args : Array Value) (below : List Frame) (meth : Method) (c : Code) (A : Nat → Prop) (H0 : Heap) (Qc : Array Value → State → Outcome → State → Prop),
    (∀ k j pc lv st ws, Z k j pc lv st ws ↔ ∀ (ls : Array Slot) (H : Heap) (locs : List Loc), zl_has ls nL lv → va_P D cl ws H → va_D A ws → va_S A H0 H locs → W p l e R s m args below meth c H locs k j (MQ below Qc args s mc ms A) (F0 m pc ls st)) ∧
    p.tables.exec = Jvm.exec ∧ c.code = cc ∧ c.maxLocals = nL ∧ s.vm.findClass own = some m.cls ∧ (∀ w ∈ Ts, w.before args s = true) ∧ va_K D cl tys s ∧ (∀ q, H0.size ≤ q → A q) ∧ zN NW s ∧ meth.name = nm ∧ meth.sig.returnType = ret ∧ meth.locks = false ∧
    (∀ (t : State) (v : Option Value) (ws : va_W) (H : Heap) (locs : List Loc), E v ws → va_P D cl ws H → va_D A ws → va_S A H0 H locs → t.heap = H → s.WarmedH t.vm → Qc args s (.returned v) t)
theorem z_args : ∀ (av : List Value) (k : Nat), (∀ v ∈ av, v.category = 1) → ∀ (i : Nat) (v : Value), av[i]? = some v → (k + i, v) ∈ lv_args k av := by
  intro av
  induction av with
  | nil => intro k _ i v h; simp at h
  | cons a r ih =>
    intro k hc i v h
    have ha : ¬ a.category = 2 := by rw [hc a List.mem_cons_self]; decide
    cases i with
    | zero =>
      have h1 : some a = some v := h
      cases h1
      exact List.mem_cons_self
    | succ i =>
      have h1 := ih (k + 1) (fun w hw => hc w (List.mem_cons_of_mem _ hw)) i v (by simpa using h)
      rw [show k + 1 + i = k + (i + 1) by omega] at h1
      show (k + (i + 1), v) ∈ (k, a) :: lv_args (if a.category = 2 then k + 2 else k + 1) r
      rw [if_neg ha]
      exact List.mem_cons_of_mem _ h1
/-- a contract out of a walk -/
theorem z_met {l : Launch} {y : MethodName} {wy wy' : List Cond} {rm : Room} {D : va_G} {cl : List vw_C} {tys : List (ClassId × FieldType)} {NW : List (String × Nat × MethodName × String)} {mc ms : Nat} {av : List Value} {wc : va_W} {E : Option Value → va_W → Prop} (cc : ByteArray) (nL : Nat) (ret : Option FieldType) (hy : plainName y.cls = true) (hw : wy = Cond.code y cc nL ret :: wy') (hav : (lg_sl av).length ≤ nL) (hcat : ∀ v ∈ av, v.category = 1)
    (body : ∀ Z : zF, zX Z l rm D cl tys NW cc nL y.cls wy mc ms ret y.name E → Z 0 0 0 (av.map some ++ List.replicate (nL - av.length) none) [] wc) : zM l y wy rm D cl tys NW mc ms av wc E := by
  intro sz
  refine Met.ofW (cc := cc) (maxL := nL) (ret := ret) hy hw ?_
  intro p e s m args below meth c s₁ B hml hv
  obtain ⟨rfl, hsz, hP, hK, hD0, hN⟩ := hv
  have hts := atoms_spec (ws := wy) B.pre
  have hown : s.vm.findClass y.cls = some m.cls := findClass_of_methodNamed B.named
  have hin : meth.name = y.name := (name_of_methodNamed B.named B.method).1
  subst hsz
  have hD := hD0.self (sz := s.heap.size)
  have hA : ∀ q : Nat, s.heap.size ≤ q → va_A wc s.heap.size q := fun q h => Or.inr h
  have hl := lv_entry av (n := nL) hav
  rw [lg_entry_eq]
  generalize (lg_sl av ++ List.replicate (nL - (lg_sl av).length) Slot.unset).toArray = ls at hl ⊢
  have hb := body (fun k j pc lv st ws => ∀ (ls : Array Slot) (H : Heap) (locs : List Loc), zl_has ls nL lv → va_P D cl ws H → va_D (va_A wc s.heap.size) ws → va_S (va_A wc s.heap.size) s.heap H locs → W p l e (headSpec wy rm).room s m av.toArray below meth c H locs k j (MQ below (fun _ st oc t => (∃ (v : Option Value) (wn : va_W), oc = .returned v ∧ E v wn ∧ va_P D cl wn t.heap ∧ va_K D cl tys t ∧ va_D (va_A wc s.heap.size) wn) ∧ va_F (va_A wc s.heap.size) st t) av.toArray s mc ms (va_A wc s.heap.size)) (F0 m pc ls st))
    ⟨p, e, s, m, av.toArray, below, meth, c, va_A wc s.heap.size, s.heap, _, fun _ _ _ _ _ _ => Iff.rfl, B.exec, B.bytes, hml, hown, hts, hK, hA, hN, hin, B.returns, B.notSynchronized, fun t v ws H locs hE hP1 hD1 hS1 ht hW => ⟨⟨v, ws, rfl, hE, by rw [ht]; exact hP1, va_K.moved hW.alike hK, hD1⟩, hS1.F ht⟩⟩
  refine hb ls s.heap [] ?_ hP hD va_S.rf
  refine ⟨hl.1, hl.2.1, fun i v hi => ?_⟩
  have hiv : av[i]? = some v := by
    by_cases hlt : i < av.length
    · rw [List.getElem?_append_left (by rw [List.length_map]; exact hlt), List.getElem?_map] at hi
      cases ha : av[i]? with
      | none => rw [ha] at hi; cases hi
      | some x =>
        rw [ha] at hi
        have h9 : some (some x) = some (some v) := hi
        rw [Option.some.inj h9]
    · rw [List.getElem?_append_right (by rw [List.length_map]; omega), List.getElem?_replicate] at hi
      split at hi
      · cases hi
      · cases hi
  refine ⟨hcat v (List.mem_of_getElem? hiv), ?_⟩
  have h8 := z_args av 0 hcat i v hiv
  rw [Nat.zero_add] at h8
  exact hl.2.2 (i, v) h8

section ZR
variable {Z : zF} {l : Launch} {R : Room} {D : va_G} {cl : List vw_C} {tys : List (ClassId × FieldType)} {NW : List (String × Nat × MethodName × String)} {cc : ByteArray} {nL : Nat} {own : String} {Ts : List Cond} {mc ms : Nat} {ret : Option FieldType} {nm : String} {E : Option Value → va_W → Prop} {k j pc : Nat} {lv : List (Option Value)} {st : List Value} {ws : va_W}
theorem z_iadd (hX : zX Z l R D cl tys NW cc nL own Ts mc ms ret nm E) {x y : Int32} (hd : decode cc pc = .ok (.iadd, 1))  (kk : Z k j (pc + 1) lv (.int (x + y) :: st) ws) : Z k j pc lv (.int y :: .int x :: st) ws := by
  obtain ⟨p, e, s, m, args, below, meth, c, A, H0, Qc, hZ, hx, hb, hml, hown, hts, hK, hA, hN, hnm, hret, hlk, hend⟩ := hX
  exact (hZ _ _ _ _ _ _).mpr (fun ls H locs hl hP hD hS => lv_iadd hx hb hd  ((hZ _ _ _ _ _ _).mp kk ls H locs hl hP hD hS))
theorem z_isub (hX : zX Z l R D cl tys NW cc nL own Ts mc ms ret nm E) {x y : Int32} (hd : decode cc pc = .ok (.isub, 1))  (kk : Z k j (pc + 1) lv (.int (x - y) :: st) ws) : Z k j pc lv (.int y :: .int x :: st) ws := by
  obtain ⟨p, e, s, m, args, below, meth, c, A, H0, Qc, hZ, hx, hb, hml, hown, hts, hK, hA, hN, hnm, hret, hlk, hend⟩ := hX
  exact (hZ _ _ _ _ _ _).mpr (fun ls H locs hl hP hD hS => lv_isub hx hb hd  ((hZ _ _ _ _ _ _).mp kk ls H locs hl hP hD hS))
theorem z_imul (hX : zX Z l R D cl tys NW cc nL own Ts mc ms ret nm E) {x y : Int32} (hd : decode cc pc = .ok (.imul, 1))  (kk : Z k j (pc + 1) lv (.int (x * y) :: st) ws) : Z k j pc lv (.int y :: .int x :: st) ws := by
  obtain ⟨p, e, s, m, args, below, meth, c, A, H0, Qc, hZ, hx, hb, hml, hown, hts, hK, hA, hN, hnm, hret, hlk, hend⟩ := hX
  exact (hZ _ _ _ _ _ _).mpr (fun ls H locs hl hP hD hS => lv_imul hx hb hd  ((hZ _ _ _ _ _ _).mp kk ls H locs hl hP hD hS))
theorem z_iand (hX : zX Z l R D cl tys NW cc nL own Ts mc ms ret nm E) {x y : Int32} (hd : decode cc pc = .ok (.iand, 1))  (kk : Z k j (pc + 1) lv (.int (x &&& y) :: st) ws) : Z k j pc lv (.int y :: .int x :: st) ws := by
  obtain ⟨p, e, s, m, args, below, meth, c, A, H0, Qc, hZ, hx, hb, hml, hown, hts, hK, hA, hN, hnm, hret, hlk, hend⟩ := hX
  exact (hZ _ _ _ _ _ _).mpr (fun ls H locs hl hP hD hS => lv_iand hx hb hd  ((hZ _ _ _ _ _ _).mp kk ls H locs hl hP hD hS))
theorem z_ior (hX : zX Z l R D cl tys NW cc nL own Ts mc ms ret nm E) {x y : Int32} (hd : decode cc pc = .ok (.ior, 1))  (kk : Z k j (pc + 1) lv (.int (x ||| y) :: st) ws) : Z k j pc lv (.int y :: .int x :: st) ws := by
  obtain ⟨p, e, s, m, args, below, meth, c, A, H0, Qc, hZ, hx, hb, hml, hown, hts, hK, hA, hN, hnm, hret, hlk, hend⟩ := hX
  exact (hZ _ _ _ _ _ _).mpr (fun ls H locs hl hP hD hS => lv_ior hx hb hd  ((hZ _ _ _ _ _ _).mp kk ls H locs hl hP hD hS))
theorem z_ixor (hX : zX Z l R D cl tys NW cc nL own Ts mc ms ret nm E) {x y : Int32} (hd : decode cc pc = .ok (.ixor, 1))  (kk : Z k j (pc + 1) lv (.int (x ^^^ y) :: st) ws) : Z k j pc lv (.int y :: .int x :: st) ws := by
  obtain ⟨p, e, s, m, args, below, meth, c, A, H0, Qc, hZ, hx, hb, hml, hown, hts, hK, hA, hN, hnm, hret, hlk, hend⟩ := hX
  exact (hZ _ _ _ _ _ _).mpr (fun ls H locs hl hP hD hS => lv_ixor hx hb hd  ((hZ _ _ _ _ _ _).mp kk ls H locs hl hP hD hS))
theorem z_ishl (hX : zX Z l R D cl tys NW cc nL own Ts mc ms ret nm E) {x y : Int32} (hd : decode cc pc = .ok (.ishl, 1))  (kk : Z k j (pc + 1) lv (.int (x <<< (y &&& 31)) :: st) ws) : Z k j pc lv (.int y :: .int x :: st) ws := by
  obtain ⟨p, e, s, m, args, below, meth, c, A, H0, Qc, hZ, hx, hb, hml, hown, hts, hK, hA, hN, hnm, hret, hlk, hend⟩ := hX
  exact (hZ _ _ _ _ _ _).mpr (fun ls H locs hl hP hD hS => lv_ishl hx hb hd  ((hZ _ _ _ _ _ _).mp kk ls H locs hl hP hD hS))
theorem z_ishr (hX : zX Z l R D cl tys NW cc nL own Ts mc ms ret nm E) {x y : Int32} (hd : decode cc pc = .ok (.ishr, 1))  (kk : Z k j (pc + 1) lv (.int (x >>> (y &&& 31)) :: st) ws) : Z k j pc lv (.int y :: .int x :: st) ws := by
  obtain ⟨p, e, s, m, args, below, meth, c, A, H0, Qc, hZ, hx, hb, hml, hown, hts, hK, hA, hN, hnm, hret, hlk, hend⟩ := hX
  exact (hZ _ _ _ _ _ _).mpr (fun ls H locs hl hP hD hS => lv_ishr hx hb hd  ((hZ _ _ _ _ _ _).mp kk ls H locs hl hP hD hS))
theorem z_irem (hX : zX Z l R D cl tys NW cc nL own Ts mc ms ret nm E) {x y : Int32} (hd : decode cc pc = .ok (.irem, 1)) (hne : ¬ y = 0) (kk : Z k j (pc + 1) lv (.int (x - x / y * y) :: st) ws) : Z k j pc lv (.int y :: .int x :: st) ws := by
  obtain ⟨p, e, s, m, args, below, meth, c, A, H0, Qc, hZ, hx, hb, hml, hown, hts, hK, hA, hN, hnm, hret, hlk, hend⟩ := hX
  exact (hZ _ _ _ _ _ _).mpr (fun ls H locs hl hP hD hS => lv_irem hx hb hd hne ((hZ _ _ _ _ _ _).mp kk ls H locs hl hP hD hS))
theorem z_iushr (hX : zX Z l R D cl tys NW cc nL own Ts mc ms ret nm E) {x y : Int32} (hd : decode cc pc = .ok (.iushr, 1)) {v : Int32} (hv : (x.toUInt32 >>> (y.toUInt32 &&& Int32.toUInt32 31)).toInt32 = v) (kk : Z k j (pc + 1) lv (.int v :: st) ws) : Z k j pc lv (.int y :: .int x :: st) ws := by
  obtain ⟨p, e, s, m, args, below, meth, c, A, H0, Qc, hZ, hx, hb, hml, hown, hts, hK, hA, hN, hnm, hret, hlk, hend⟩ := hX
  exact (hZ _ _ _ _ _ _).mpr (fun ls H locs hl hP hD hS => lv_iushr hx hb hd hv ((hZ _ _ _ _ _ _).mp kk ls H locs hl hP hD hS))
theorem z_ineg (hX : zX Z l R D cl tys NW cc nL own Ts mc ms ret nm E) {x : Int32} (hd : decode cc pc = .ok (.ineg, 1)) (kk : Z k j (pc + 1) lv (.int (-x) :: st) ws) : Z k j pc lv (.int x :: st) ws := by
  obtain ⟨p, e, s, m, args, below, meth, c, A, H0, Qc, hZ, hx, hb, hml, hown, hts, hK, hA, hN, hnm, hret, hlk, hend⟩ := hX
  exact (hZ _ _ _ _ _ _).mpr (fun ls H locs hl hP hD hS => lv_ineg hx hb hd ((hZ _ _ _ _ _ _).mp kk ls H locs hl hP hD hS))
theorem z_iconst (hX : zX Z l R D cl tys NW cc nL own Ts mc ms ret nm E) {n : Int} (v : Int32) (hd : decode cc pc = .ok (.iconst n, 1)) (hv : Int32.ofInt n = v) (kk : Z k j (pc + 1) lv (.int v :: st) ws) : Z k j pc lv st ws := by
  obtain ⟨p, e, s, m, args, below, meth, c, A, H0, Qc, hZ, hx, hb, hml, hown, hts, hK, hA, hN, hnm, hret, hlk, hend⟩ := hX
  exact (hZ _ _ _ _ _ _).mpr (fun ls H locs hl hP hD hS => lv_iconst hx hb hd hv ((hZ _ _ _ _ _ _).mp kk ls H locs hl hP hD hS))
theorem z_bipush (hX : zX Z l R D cl tys NW cc nL own Ts mc ms ret nm E) {n : Int} (v : Int32) (hd : decode cc pc = .ok (.bipush n, 2)) (hv : (Int8.ofInt n).toInt32 = v) (kk : Z k j (pc + 2) lv (.int v :: st) ws) : Z k j pc lv st ws := by
  obtain ⟨p, e, s, m, args, below, meth, c, A, H0, Qc, hZ, hx, hb, hml, hown, hts, hK, hA, hN, hnm, hret, hlk, hend⟩ := hX
  exact (hZ _ _ _ _ _ _).mpr (fun ls H locs hl hP hD hS => lv_bipush hx hb hd hv ((hZ _ _ _ _ _ _).mp kk ls H locs hl hP hD hS))
theorem z_sipush (hX : zX Z l R D cl tys NW cc nL own Ts mc ms ret nm E) {n : Int} (v : Int32) (hd : decode cc pc = .ok (.sipush n, 3)) (hv : (Int16.ofInt n).toInt32 = v) (kk : Z k j (pc + 3) lv (.int v :: st) ws) : Z k j pc lv st ws := by
  obtain ⟨p, e, s, m, args, below, meth, c, A, H0, Qc, hZ, hx, hb, hml, hown, hts, hK, hA, hN, hnm, hret, hlk, hend⟩ := hX
  exact (hZ _ _ _ _ _ _).mpr (fun ls H locs hl hP hD hS => lv_sipush hx hb hd hv ((hZ _ _ _ _ _ _).mp kk ls H locs hl hP hD hS))
theorem z_ldc (hX : zX Z l R D cl tys NW cc nL own Ts mc ms ret nm E) {ix : Nat} (v : Int32) (hc : Cond.constant own ix v ∈ Ts) (hd : decode cc pc = .ok (.ldc ix, 2)) (kk : Z k j (pc + 2) lv (.int v :: st) ws) : Z k j pc lv st ws := by
  obtain ⟨p, e, s, m, args, below, meth, c, A, H0, Qc, hZ, hx, hb, hml, hown, hts, hK, hA, hN, hnm, hret, hlk, hend⟩ := hX
  exact (hZ _ _ _ _ _ _).mpr (fun ls H locs hl hP hD hS => lv_ldc hx hb hown (hts _ hc) hd ((hZ _ _ _ _ _ _).mp kk ls H locs hl hP hD hS))
theorem z_dup (hX : zX Z l R D cl tys NW cc nL own Ts mc ms ret nm E) {v : Value} (hd : decode cc pc = .ok (.dup, 1)) (hv : v.category = 1) (kk : Z k j (pc + 1) lv (v :: v :: st) ws) : Z k j pc lv (v :: st) ws := by
  obtain ⟨p, e, s, m, args, below, meth, c, A, H0, Qc, hZ, hx, hb, hml, hown, hts, hK, hA, hN, hnm, hret, hlk, hend⟩ := hX
  exact (hZ _ _ _ _ _ _).mpr (fun ls H locs hl hP hD hS => lv_dup hx hb hd hv ((hZ _ _ _ _ _ _).mp kk ls H locs hl hP hD hS))
theorem z_pop (hX : zX Z l R D cl tys NW cc nL own Ts mc ms ret nm E) {v : Value} (hd : decode cc pc = .ok (.pop, 1)) (hv : v.category = 1) (kk : Z k j (pc + 1) lv st ws) : Z k j pc lv (v :: st) ws := by
  obtain ⟨p, e, s, m, args, below, meth, c, A, H0, Qc, hZ, hx, hb, hml, hown, hts, hK, hA, hN, hnm, hret, hlk, hend⟩ := hX
  exact (hZ _ _ _ _ _ _).mpr (fun ls H locs hl hP hD hS => lv_pop hx hb hd hv ((hZ _ _ _ _ _ _).mp kk ls H locs hl hP hD hS))
theorem z_iload_n (hX : zX Z l R D cl tys NW cc nL own Ts mc ms ret nm E) {q : Fin 4} (i : Nat) {x : Int32} (hd : decode cc pc = .ok (.iload_n q, 1)) (hi : (q : Nat) = i) (hv : lv[i]? = some (some (.int x))) (kk : Z k j (pc + 1) lv (.int x :: st) ws) : Z k j pc lv st ws := by
  obtain ⟨p, e, s, m, args, below, meth, c, A, H0, Qc, hZ, hx, hb, hml, hown, hts, hK, hA, hN, hnm, hret, hlk, hend⟩ := hX
  exact (hZ _ _ _ _ _ _).mpr (fun ls H locs hl hP hD hS => lv_iload_n hx hb hd hi (zl_get hl hv) ((hZ _ _ _ _ _ _).mp kk ls H locs hl hP hD hS))
theorem z_iload (hX : zX Z l R D cl tys NW cc nL own Ts mc ms ret nm E) (i : Nat) {x : Int32} (hd : decode cc pc = .ok (.iload i, 2)) (hv : lv[i]? = some (some (.int x))) (kk : Z k j (pc + 2) lv (.int x :: st) ws) : Z k j pc lv st ws := by
  obtain ⟨p, e, s, m, args, below, meth, c, A, H0, Qc, hZ, hx, hb, hml, hown, hts, hK, hA, hN, hnm, hret, hlk, hend⟩ := hX
  exact (hZ _ _ _ _ _ _).mpr (fun ls H locs hl hP hD hS => lv_iload hx hb hd (zl_get hl hv) ((hZ _ _ _ _ _ _).mp kk ls H locs hl hP hD hS))
theorem z_istore_n (hX : zX Z l R D cl tys NW cc nL own Ts mc ms ret nm E) {q : Fin 4} (i : Nat) {x : Int32} (hd : decode cc pc = .ok (.istore_n q, 1)) (hi : (q : Nat) = i) (hn : i < nL) (kk : Z k j (pc + 1) (lv.set i (some (.int x))) st ws) : Z k j pc lv (.int x :: st) ws := by
  obtain ⟨p, e, s, m, args, below, meth, c, A, H0, Qc, hZ, hx, hb, hml, hown, hts, hK, hA, hN, hnm, hret, hlk, hend⟩ := hX
  exact (hZ _ _ _ _ _ _).mpr (fun ls H locs hl hP hD hS => lv_istore_n hx hb hd hi (zl_to hl) hn rfl (fun ls1 hl1 => (hZ _ _ _ _ _ _).mp kk ls1 H locs (zl_set hl rfl hl1) hP hD hS))
theorem z_istore (hX : zX Z l R D cl tys NW cc nL own Ts mc ms ret nm E) (i : Nat) {x : Int32} (hd : decode cc pc = .ok (.istore i, 2)) (hn : i < nL) (kk : Z k j (pc + 2) (lv.set i (some (.int x))) st ws) : Z k j pc lv (.int x :: st) ws := by
  obtain ⟨p, e, s, m, args, below, meth, c, A, H0, Qc, hZ, hx, hb, hml, hown, hts, hK, hA, hN, hnm, hret, hlk, hend⟩ := hX
  exact (hZ _ _ _ _ _ _).mpr (fun ls H locs hl hP hD hS => lv_istore hx hb hd (zl_to hl) hn rfl (fun ls1 hl1 => (hZ _ _ _ _ _ _).mp kk ls1 H locs (zl_set hl rfl hl1) hP hD hS))
theorem z_aload_n (hX : zX Z l R D cl tys NW cc nL own Ts mc ms ret nm E) {q : Fin 4} (i : Nat) {x : Nat} (hd : decode cc pc = .ok (.aload_n q, 1)) (hi : (q : Nat) = i) (hv : lv[i]? = some (some (.ref x))) (kk : Z k j (pc + 1) lv (.ref x :: st) ws) : Z k j pc lv st ws := by
  obtain ⟨p, e, s, m, args, below, meth, c, A, H0, Qc, hZ, hx, hb, hml, hown, hts, hK, hA, hN, hnm, hret, hlk, hend⟩ := hX
  exact (hZ _ _ _ _ _ _).mpr (fun ls H locs hl hP hD hS => lv_aload_n hx hb hd hi (zl_get hl hv) ((hZ _ _ _ _ _ _).mp kk ls H locs hl hP hD hS))
theorem z_aload (hX : zX Z l R D cl tys NW cc nL own Ts mc ms ret nm E) (i : Nat) {x : Nat} (hd : decode cc pc = .ok (.aload i, 2)) (hv : lv[i]? = some (some (.ref x))) (kk : Z k j (pc + 2) lv (.ref x :: st) ws) : Z k j pc lv st ws := by
  obtain ⟨p, e, s, m, args, below, meth, c, A, H0, Qc, hZ, hx, hb, hml, hown, hts, hK, hA, hN, hnm, hret, hlk, hend⟩ := hX
  exact (hZ _ _ _ _ _ _).mpr (fun ls H locs hl hP hD hS => lv_aload hx hb hd (zl_get hl hv) ((hZ _ _ _ _ _ _).mp kk ls H locs hl hP hD hS))
theorem z_astore_n (hX : zX Z l R D cl tys NW cc nL own Ts mc ms ret nm E) {q : Fin 4} (i : Nat) {x : Nat} (hd : decode cc pc = .ok (.astore_n q, 1)) (hi : (q : Nat) = i) (hn : i < nL) (kk : Z k j (pc + 1) (lv.set i (some (.ref x))) st ws) : Z k j pc lv (.ref x :: st) ws := by
  obtain ⟨p, e, s, m, args, below, meth, c, A, H0, Qc, hZ, hx, hb, hml, hown, hts, hK, hA, hN, hnm, hret, hlk, hend⟩ := hX
  exact (hZ _ _ _ _ _ _).mpr (fun ls H locs hl hP hD hS => lv_astore_n hx hb hd hi (zl_to hl) hn rfl (fun ls1 hl1 => (hZ _ _ _ _ _ _).mp kk ls1 H locs (zl_set hl rfl hl1) hP hD hS))
theorem z_astore (hX : zX Z l R D cl tys NW cc nL own Ts mc ms ret nm E) (i : Nat) {x : Nat} (hd : decode cc pc = .ok (.astore i, 2)) (hn : i < nL) (kk : Z k j (pc + 2) (lv.set i (some (.ref x))) st ws) : Z k j pc lv (.ref x :: st) ws := by
  obtain ⟨p, e, s, m, args, below, meth, c, A, H0, Qc, hZ, hx, hb, hml, hown, hts, hK, hA, hN, hnm, hret, hlk, hend⟩ := hX
  exact (hZ _ _ _ _ _ _).mpr (fun ls H locs hl hP hD hS => lv_astore hx hb hd (zl_to hl) hn rfl (fun ls1 hl1 => (hZ _ _ _ _ _ _).mp kk ls1 H locs (zl_set hl rfl hl1) hP hD hS))
theorem z_iinc (hX : zX Z l R D cl tys NW cc nL own Ts mc ms ret nm E) (i : Nat) {n : Int} {x v : Int32} (hd : decode cc pc = .ok (.iinc i n, 3)) (hv : lv[i]? = some (some (.int x))) (he : x + Int32.ofInt n = v) (hn : i < nL) (kk : Z k j (pc + 3) (lv.set i (some (.int v))) st ws) : Z k j pc lv st ws := by
  obtain ⟨p, e, s, m, args, below, meth, c, A, H0, Qc, hZ, hx, hb, hml, hown, hts, hK, hA, hN, hnm, hret, hlk, hend⟩ := hX
  refine (hZ _ _ _ _ _ _).mpr (fun ls H locs hl hP hD hS => ?_)
  obtain ⟨k0, hk0⟩ := List.getElem?_of_mem ((zl_mem lv 0 (i, .int x)).mpr ⟨i, by show i = 0 + i; omega, hv⟩)
  exact lv_iinc hx hb hd (zl_to hl) hk0 he hn rfl (fun ls1 hl1 => (hZ _ _ _ _ _ _).mp kk ls1 H locs (zl_set hl rfl hl1) hP hD hS)
theorem z_if_eq (hX : zX Z l R D cl tys NW cc nL own Ts mc ms ret nm E) {x : Int32} {off : Int} (tgt : Nat) (hd : decode cc pc = .ok (.ifCond .eq off, 3)) (ht : (pc : Int) + off = (tgt : Int)) (kt : x = 0 → Z k j tgt lv st ws) (kf : ¬ x = 0 → Z k j (pc + 3) lv st ws) : Z k j pc lv (.int x :: st) ws := by
  obtain ⟨p, e, s, m, args, below, meth, c, A, H0, Qc, hZ, hx, hb, hml, hown, hts, hK, hA, hN, hnm, hret, hlk, hend⟩ := hX
  exact (hZ _ _ _ _ _ _).mpr (fun ls H locs hl hP hD hS => lv_if_eq hx hb hd ht (fun h => (hZ _ _ _ _ _ _).mp (kt h) ls H locs hl hP hD hS) (fun h => (hZ _ _ _ _ _ _).mp (kf h) ls H locs hl hP hD hS))
theorem z_if_ne (hX : zX Z l R D cl tys NW cc nL own Ts mc ms ret nm E) {x : Int32} {off : Int} (tgt : Nat) (hd : decode cc pc = .ok (.ifCond .ne off, 3)) (ht : (pc : Int) + off = (tgt : Int)) (kt : ¬ x = 0 → Z k j tgt lv st ws) (kf : x = 0 → Z k j (pc + 3) lv st ws) : Z k j pc lv (.int x :: st) ws := by
  obtain ⟨p, e, s, m, args, below, meth, c, A, H0, Qc, hZ, hx, hb, hml, hown, hts, hK, hA, hN, hnm, hret, hlk, hend⟩ := hX
  exact (hZ _ _ _ _ _ _).mpr (fun ls H locs hl hP hD hS => lv_if_ne hx hb hd ht (fun h => (hZ _ _ _ _ _ _).mp (kt h) ls H locs hl hP hD hS) (fun h => (hZ _ _ _ _ _ _).mp (kf h) ls H locs hl hP hD hS))
theorem z_if_lt (hX : zX Z l R D cl tys NW cc nL own Ts mc ms ret nm E) {x : Int32} {off : Int} (tgt : Nat) (hd : decode cc pc = .ok (.ifCond .lt off, 3)) (ht : (pc : Int) + off = (tgt : Int)) (kt : x < 0 → Z k j tgt lv st ws) (kf : ¬ x < 0 → Z k j (pc + 3) lv st ws) : Z k j pc lv (.int x :: st) ws := by
  obtain ⟨p, e, s, m, args, below, meth, c, A, H0, Qc, hZ, hx, hb, hml, hown, hts, hK, hA, hN, hnm, hret, hlk, hend⟩ := hX
  exact (hZ _ _ _ _ _ _).mpr (fun ls H locs hl hP hD hS => lv_if_lt hx hb hd ht (fun h => (hZ _ _ _ _ _ _).mp (kt h) ls H locs hl hP hD hS) (fun h => (hZ _ _ _ _ _ _).mp (kf h) ls H locs hl hP hD hS))
theorem z_if_ge (hX : zX Z l R D cl tys NW cc nL own Ts mc ms ret nm E) {x : Int32} {off : Int} (tgt : Nat) (hd : decode cc pc = .ok (.ifCond .ge off, 3)) (ht : (pc : Int) + off = (tgt : Int)) (kt : 0 ≤ x → Z k j tgt lv st ws) (kf : ¬ 0 ≤ x → Z k j (pc + 3) lv st ws) : Z k j pc lv (.int x :: st) ws := by
  obtain ⟨p, e, s, m, args, below, meth, c, A, H0, Qc, hZ, hx, hb, hml, hown, hts, hK, hA, hN, hnm, hret, hlk, hend⟩ := hX
  exact (hZ _ _ _ _ _ _).mpr (fun ls H locs hl hP hD hS => lv_if_ge hx hb hd ht (fun h => (hZ _ _ _ _ _ _).mp (kt h) ls H locs hl hP hD hS) (fun h => (hZ _ _ _ _ _ _).mp (kf h) ls H locs hl hP hD hS))
theorem z_if_gt (hX : zX Z l R D cl tys NW cc nL own Ts mc ms ret nm E) {x : Int32} {off : Int} (tgt : Nat) (hd : decode cc pc = .ok (.ifCond .gt off, 3)) (ht : (pc : Int) + off = (tgt : Int)) (kt : 0 < x → Z k j tgt lv st ws) (kf : ¬ 0 < x → Z k j (pc + 3) lv st ws) : Z k j pc lv (.int x :: st) ws := by
  obtain ⟨p, e, s, m, args, below, meth, c, A, H0, Qc, hZ, hx, hb, hml, hown, hts, hK, hA, hN, hnm, hret, hlk, hend⟩ := hX
  exact (hZ _ _ _ _ _ _).mpr (fun ls H locs hl hP hD hS => lv_if_gt hx hb hd ht (fun h => (hZ _ _ _ _ _ _).mp (kt h) ls H locs hl hP hD hS) (fun h => (hZ _ _ _ _ _ _).mp (kf h) ls H locs hl hP hD hS))
theorem z_if_le (hX : zX Z l R D cl tys NW cc nL own Ts mc ms ret nm E) {x : Int32} {off : Int} (tgt : Nat) (hd : decode cc pc = .ok (.ifCond .le off, 3)) (ht : (pc : Int) + off = (tgt : Int)) (kt : x ≤ 0 → Z k j tgt lv st ws) (kf : ¬ x ≤ 0 → Z k j (pc + 3) lv st ws) : Z k j pc lv (.int x :: st) ws := by
  obtain ⟨p, e, s, m, args, below, meth, c, A, H0, Qc, hZ, hx, hb, hml, hown, hts, hK, hA, hN, hnm, hret, hlk, hend⟩ := hX
  exact (hZ _ _ _ _ _ _).mpr (fun ls H locs hl hP hD hS => lv_if_le hx hb hd ht (fun h => (hZ _ _ _ _ _ _).mp (kt h) ls H locs hl hP hD hS) (fun h => (hZ _ _ _ _ _ _).mp (kf h) ls H locs hl hP hD hS))
theorem z_icmp_eq (hX : zX Z l R D cl tys NW cc nL own Ts mc ms ret nm E) {x y : Int32} {off : Int} (tgt : Nat) (hd : decode cc pc = .ok (.if_icmp .eq off, 3)) (ht : (pc : Int) + off = (tgt : Int)) (kt : x = y → Z k j tgt lv st ws) (kf : ¬ x = y → Z k j (pc + 3) lv st ws) : Z k j pc lv (.int y :: .int x :: st) ws := by
  obtain ⟨p, e, s, m, args, below, meth, c, A, H0, Qc, hZ, hx, hb, hml, hown, hts, hK, hA, hN, hnm, hret, hlk, hend⟩ := hX
  exact (hZ _ _ _ _ _ _).mpr (fun ls H locs hl hP hD hS => lv_icmp_eq hx hb hd ht (fun h => (hZ _ _ _ _ _ _).mp (kt h) ls H locs hl hP hD hS) (fun h => (hZ _ _ _ _ _ _).mp (kf h) ls H locs hl hP hD hS))
theorem z_icmp_ne (hX : zX Z l R D cl tys NW cc nL own Ts mc ms ret nm E) {x y : Int32} {off : Int} (tgt : Nat) (hd : decode cc pc = .ok (.if_icmp .ne off, 3)) (ht : (pc : Int) + off = (tgt : Int)) (kt : ¬ x = y → Z k j tgt lv st ws) (kf : x = y → Z k j (pc + 3) lv st ws) : Z k j pc lv (.int y :: .int x :: st) ws := by
  obtain ⟨p, e, s, m, args, below, meth, c, A, H0, Qc, hZ, hx, hb, hml, hown, hts, hK, hA, hN, hnm, hret, hlk, hend⟩ := hX
  exact (hZ _ _ _ _ _ _).mpr (fun ls H locs hl hP hD hS => lv_icmp_ne hx hb hd ht (fun h => (hZ _ _ _ _ _ _).mp (kt h) ls H locs hl hP hD hS) (fun h => (hZ _ _ _ _ _ _).mp (kf h) ls H locs hl hP hD hS))
theorem z_icmp_lt (hX : zX Z l R D cl tys NW cc nL own Ts mc ms ret nm E) {x y : Int32} {off : Int} (tgt : Nat) (hd : decode cc pc = .ok (.if_icmp .lt off, 3)) (ht : (pc : Int) + off = (tgt : Int)) (kt : x < y → Z k j tgt lv st ws) (kf : ¬ x < y → Z k j (pc + 3) lv st ws) : Z k j pc lv (.int y :: .int x :: st) ws := by
  obtain ⟨p, e, s, m, args, below, meth, c, A, H0, Qc, hZ, hx, hb, hml, hown, hts, hK, hA, hN, hnm, hret, hlk, hend⟩ := hX
  exact (hZ _ _ _ _ _ _).mpr (fun ls H locs hl hP hD hS => lv_icmp_lt hx hb hd ht (fun h => (hZ _ _ _ _ _ _).mp (kt h) ls H locs hl hP hD hS) (fun h => (hZ _ _ _ _ _ _).mp (kf h) ls H locs hl hP hD hS))
theorem z_icmp_ge (hX : zX Z l R D cl tys NW cc nL own Ts mc ms ret nm E) {x y : Int32} {off : Int} (tgt : Nat) (hd : decode cc pc = .ok (.if_icmp .ge off, 3)) (ht : (pc : Int) + off = (tgt : Int)) (kt : y ≤ x → Z k j tgt lv st ws) (kf : ¬ y ≤ x → Z k j (pc + 3) lv st ws) : Z k j pc lv (.int y :: .int x :: st) ws := by
  obtain ⟨p, e, s, m, args, below, meth, c, A, H0, Qc, hZ, hx, hb, hml, hown, hts, hK, hA, hN, hnm, hret, hlk, hend⟩ := hX
  exact (hZ _ _ _ _ _ _).mpr (fun ls H locs hl hP hD hS => lv_icmp_ge hx hb hd ht (fun h => (hZ _ _ _ _ _ _).mp (kt h) ls H locs hl hP hD hS) (fun h => (hZ _ _ _ _ _ _).mp (kf h) ls H locs hl hP hD hS))
theorem z_icmp_gt (hX : zX Z l R D cl tys NW cc nL own Ts mc ms ret nm E) {x y : Int32} {off : Int} (tgt : Nat) (hd : decode cc pc = .ok (.if_icmp .gt off, 3)) (ht : (pc : Int) + off = (tgt : Int)) (kt : y < x → Z k j tgt lv st ws) (kf : ¬ y < x → Z k j (pc + 3) lv st ws) : Z k j pc lv (.int y :: .int x :: st) ws := by
  obtain ⟨p, e, s, m, args, below, meth, c, A, H0, Qc, hZ, hx, hb, hml, hown, hts, hK, hA, hN, hnm, hret, hlk, hend⟩ := hX
  exact (hZ _ _ _ _ _ _).mpr (fun ls H locs hl hP hD hS => lv_icmp_gt hx hb hd ht (fun h => (hZ _ _ _ _ _ _).mp (kt h) ls H locs hl hP hD hS) (fun h => (hZ _ _ _ _ _ _).mp (kf h) ls H locs hl hP hD hS))
theorem z_icmp_le (hX : zX Z l R D cl tys NW cc nL own Ts mc ms ret nm E) {x y : Int32} {off : Int} (tgt : Nat) (hd : decode cc pc = .ok (.if_icmp .le off, 3)) (ht : (pc : Int) + off = (tgt : Int)) (kt : x ≤ y → Z k j tgt lv st ws) (kf : ¬ x ≤ y → Z k j (pc + 3) lv st ws) : Z k j pc lv (.int y :: .int x :: st) ws := by
  obtain ⟨p, e, s, m, args, below, meth, c, A, H0, Qc, hZ, hx, hb, hml, hown, hts, hK, hA, hN, hnm, hret, hlk, hend⟩ := hX
  exact (hZ _ _ _ _ _ _).mpr (fun ls H locs hl hP hD hS => lv_icmp_le hx hb hd ht (fun h => (hZ _ _ _ _ _ _).mp (kt h) ls H locs hl hP hD hS) (fun h => (hZ _ _ _ _ _ _).mp (kf h) ls H locs hl hP hD hS))
theorem z_goto (hX : zX Z l R D cl tys NW cc nL own Ts mc ms ret nm E) {off : Int} (tgt : Nat) (hd : decode cc pc = .ok (.goto off, 3)) (ht : (pc : Int) + off = (tgt : Int)) (kk : Z k j tgt lv st ws) : Z k j pc lv st ws := by
  obtain ⟨p, e, s, m, args, below, meth, c, A, H0, Qc, hZ, hx, hb, hml, hown, hts, hK, hA, hN, hnm, hret, hlk, hend⟩ := hX
  exact (hZ _ _ _ _ _ _).mpr (fun ls H locs hl hP hD hS => lv_goto hx hb hd ht ((hZ _ _ _ _ _ _).mp kk ls H locs hl hP hD hS))
theorem z_get (hX : zX Z l R D cl tys NW cc nL own Ts mc ms ret nm E) {C : String} {T : u_T} {N ci ix a : Nat} {fs : List Value} {v : Value} (q0 f : Nat) (he : ws[q0]? = some (a, .inr (ci, fs))) (hc : cl[ci]? = some (C, T, N)) (hin : ∀ w ∈ u_ws C T N, w ∈ Ts) (hf : f < N) (hlink : Cond.fieldLink own ix (T f).1 (T f).2.1 (T f).2.2.1 ∈ Ts) (hv : fs[f]? = some v) (hd : decode cc pc = .ok (.getfield ix, 3)) (kk : Z k j (pc + 3) lv (v :: st) ws) : Z k j pc lv (.ref a :: st) ws := by
  obtain ⟨p, e, s, m, args, below, meth, c, A, H0, Qc, hZ, hx, hb, hml, hown, hts, hK, hA, hN, hnm, hret, hlk, hend⟩ := hX
  exact (hZ _ _ _ _ _ _).mpr (fun ls H locs hl hP hD hS => va_get hx hb hts hin hown hK hP q0 he hc f hf (hts _ hlink) (fun _ h9 => h9) hv hd ((hZ _ _ _ _ _ _).mp kk ls H locs hl hP hD hS))
theorem z_put (hX : zX Z l R D cl tys NW cc nL own Ts mc ms ret nm E) {C : String} {T : u_T} {N ci ix a : Nat} {fs : List Value} {v : Value} {ty : FieldType} (q0 f : Nat) (he : ws[q0]? = some (a, .inr (ci, fs))) (hc : cl[ci]? = some (C, T, N)) (hin : ∀ w ∈ u_ws C T N, w ∈ Ts) (ty0 : Nat → FieldType) (hty : ∀ k, k < N → parseFieldDescriptor (T k).2.2.1 = some (ty0 k)) (hnn : ∀ a, a < N → ∀ b, b < N → a ≠ b → (T a).2.1 ≠ (T b).2.1) (hf : f < N) (hlink : Cond.fieldLink own ix (T f).1 (T f).2.1 (T f).2.2.1 ∈ Ts) (hfin : (T f).2.2.2 = false ∨ ((T f).2.2.2 = true ∧ nm = "<init>" ∧ (T f).1 = own)) (hdt : parseFieldDescriptor (T f).2.2.1 = some ty) (hn : narrow ty v = v) (hfit : fits ty v = true) (hl0 : f < fs.length) (hd : decode cc pc = .ok (.putfield ix, 3)) (kk : Z k j (pc + 3) lv st (ws.set q0 (a, .inr (ci, fs.set f v)))) : Z k j pc lv (v :: .ref a :: st) ws := by
  obtain ⟨p, e, s, m, args, below, meth, c, A, H0, Qc, hZ, hx, hb, hml, hown, hts, hK, hA, hN, hnm, hret, hlk, hend⟩ := hX
  refine (hZ _ _ _ _ _ _).mpr (fun ls H locs hl hP hD hS => ?_)
  rcases hfin with hfin | ⟨hfin, hi, ho⟩
  · exact va_put hx hb hts hin ty0 hty hnn hown hK hP hD hS q0 he hc f hf (hts _ hlink) (fun _ h9 => h9) hfin hdt hn hfit hl0 hd (fun H1 locs1 hP1 hD1 hS1 => (hZ _ _ _ _ _ _).mp kk ls H1 locs1 hl hP1 hD1 hS1)
  · exact va_putF hx hb hts hin ty0 hty hnn hown hK hP hD hS q0 he hc f hf (hts _ hlink) (fun _ h9 => h9) hfin (hnm.trans hi) ho hdt hn hfit hl0 hd (fun H1 locs1 hP1 hD1 hS1 => (hZ _ _ _ _ _ _).mp kk ls H1 locs1 hl hP1 hD1 hS1)
theorem z_iald (hX : zX Z l R D cl tys NW cc nL own Ts mc ms ret nm E) {cA : ClassId} {n a : Nat} {f : Nat → Int32} (q0 t0 i : Nat) {x : Int32} (ha : ws[q0]? = some (a, .inl (cA, n, .inl f))) (ht : tys[t0]? = some (cA, .int)) (hx0 : x = nI i) (hi : i < n) (hn : n < 2147483648) (hd : decode cc pc = .ok (.iaload, 1)) (kk : Z k j (pc + 1) lv (.int (f i) :: st) ws) : Z k j pc lv (.int x :: .ref a :: st) ws := by
  obtain ⟨p, e, s, m, args, below, meth, c, A, H0, Qc, hZ, hx, hb, hml, hown, hts, hK, hA, hN, hnm, hret, hlk, hend⟩ := hX
  subst hx0
  refine (hZ _ _ _ _ _ _).mpr (fun ls H locs hl hP hD hS => va_iald hx hb hK hP q0 t0 ha ht (vp_in_nI hi hn) hd ?_)
  rw [nI_clamp (show i < 2 ^ 31 by omega)]
  exact ((hZ _ _ _ _ _ _).mp kk ls H locs hl hP hD hS)
theorem z_zald (hX : zX Z l R D cl tys NW cc nL own Ts mc ms ret nm E) {cA : ClassId} {n a : Nat} {f : Nat → Int32} (q0 t0 i : Nat) {x : Int32} (ha : ws[q0]? = some (a, .inl (cA, n, .inl f))) (ht : tys[t0]? = some (cA, .boolean)) (hx0 : x = nI i) (hi : i < n) (hn : n < 2147483648) (hd : decode cc pc = .ok (.baload, 1)) (kk : Z k j (pc + 1) lv (.int (f i) :: st) ws) : Z k j pc lv (.int x :: .ref a :: st) ws := by
  obtain ⟨p, e, s, m, args, below, meth, c, A, H0, Qc, hZ, hx, hb, hml, hown, hts, hK, hA, hN, hnm, hret, hlk, hend⟩ := hX
  subst hx0
  refine (hZ _ _ _ _ _ _).mpr (fun ls H locs hl hP hD hS => va_zald hx hb hK hP q0 t0 ha ht (vp_in_nI hi hn) hd ?_)
  rw [nI_clamp (show i < 2 ^ 31 by omega)]
  exact ((hZ _ _ _ _ _ _).mp kk ls H locs hl hP hD hS)
theorem z_iast (hX : zX Z l R D cl tys NW cc nL own Ts mc ms ret nm E) {cA : ClassId} {n a : Nat} {f f' : Nat → Int32} (q0 t0 i : Nat) {x y : Int32} (ha : ws[q0]? = some (a, .inl (cA, n, .inl f))) (ht : tys[t0]? = some (cA, .int)) (hx0 : x = nI i) (hi : i < n) (hn : n < 2147483648) (hd : decode cc pc = .ok (.iastore, 1)) (hf : upd f i y = f') (kk : Z k j (pc + 1) lv st (ws.set q0 (a, .inl (cA, n, .inl f')))) : Z k j pc lv (.int y :: .int x :: .ref a :: st) ws := by
  obtain ⟨p, e, s, m, args, below, meth, c, A, H0, Qc, hZ, hx, hb, hml, hown, hts, hK, hA, hN, hnm, hret, hlk, hend⟩ := hX
  subst hx0
  subst hf
  refine (hZ _ _ _ _ _ _).mpr (fun ls H locs hl hP hD hS => va_iast hx hb hK hP hD hS q0 t0 ha ht (vp_in_nI hi hn) hd (fun H1 locs1 hP1 hD1 hS1 => ?_))
  rw [nI_clamp (show i < 2 ^ 31 by omega)] at hP1 hD1
  exact (hZ _ _ _ _ _ _).mp kk ls H1 locs1 hl hP1 hD1 hS1
theorem z_zast (hX : zX Z l R D cl tys NW cc nL own Ts mc ms ret nm E) {cA : ClassId} {n a : Nat} {f f' : Nat → Int32} (q0 t0 i : Nat) {x y : Int32} (ha : ws[q0]? = some (a, .inl (cA, n, .inl f))) (ht : tys[t0]? = some (cA, .boolean)) (hx0 : x = nI i) (hi : i < n) (hn : n < 2147483648) (hd : decode cc pc = .ok (.bastore, 1)) (hf : upd f i (vp_nar .boolean y) = f') (kk : Z k j (pc + 1) lv st (ws.set q0 (a, .inl (cA, n, .inl f')))) : Z k j pc lv (.int y :: .int x :: .ref a :: st) ws := by
  obtain ⟨p, e, s, m, args, below, meth, c, A, H0, Qc, hZ, hx, hb, hml, hown, hts, hK, hA, hN, hnm, hret, hlk, hend⟩ := hX
  subst hx0
  subst hf
  refine (hZ _ _ _ _ _ _).mpr (fun ls H locs hl hP hD hS => va_zast hx hb hK hP hD hS q0 t0 ha ht (vp_in_nI hi hn) hd (fun H1 locs1 hP1 hD1 hS1 => ?_))
  rw [nI_clamp (show i < 2 ^ 31 by omega)] at hP1 hD1
  exact (hZ _ _ _ _ _ _).mp kk ls H1 locs1 hl hP1 hD1 hS1
theorem z_less (hX : zX Z l R D cl tys NW cc nL own Ts mc ms ret nm E) (lv2 : List (Option Value)) (h : ∀ (i : Nat) (v : Value), lv[i]? = some (some v) → lv2[i]? = some (some v)) (kk : Z k j pc lv st ws) : Z k j pc lv2 st ws := by
  obtain ⟨p, e, s, m, args, below, meth, c, A, H0, Qc, hZ, hx, hb, hml, hown, hts, hK, hA, hN, hnm, hret, hlk, hend⟩ := hX
  exact (hZ _ _ _ _ _ _).mpr (fun ls H locs hl hP hD hS => (hZ _ _ _ _ _ _).mp kk ls H locs (zl_less hl h) hP hD hS)
theorem z_wide (hX : zX Z l R D cl tys NW cc nL own Ts mc ms ret nm E) (k2 j2 : Nat) (hk : k ≤ k2) (hj : j ≤ j2) (kk : Z k2 j2 pc lv st ws) : Z k j pc lv st ws := by
  obtain ⟨p, e, s, m, args, below, meth, c, A, H0, Qc, hZ, hx, hb, hml, hown, hts, hK, hA, hN, hnm, hret, hlk, hend⟩ := hX
  exact (hZ _ _ _ _ _ _).mpr (fun ls H locs hl hP hD hS => W.widen hk hj ((hZ _ _ _ _ _ _).mp kk ls H locs hl hP hD hS))
theorem z_iret (hX : zX Z l R D cl tys NW cc nL own Ts mc ms ret nm E) {v : Int32} {ty : FieldType} (hr : ret = some ty) (hn : narrow ty (.int v) = .int v) (hk : k = mc) (hj : j = ms) (hd : decode cc pc = .ok (.ireturn, 1)) (hE : E (some (.int v)) ws) : Z k j pc lv [.int v] ws := by
  obtain ⟨p, e, s, m, args, below, meth, c, A, H0, Qc, hZ, hx, hb, hml, hown, hts, hK, hA, hN, hnm, hret, hlk, hend⟩ := hX
  subst hk
  subst hj
  exact (hZ _ _ _ _ _ _).mpr (fun ls H locs hl hP hD hS => W.zret hx hb (hret.trans hr) hn (fun t ht hW => hend t _ ws H locs hE hP hD hS ht hW) hS.2.2 hd hlk)
theorem z_vret (hX : zX Z l R D cl tys NW cc nL own Ts mc ms ret nm E) (hr : ret = none) (hk : k = mc) (hj : j = ms) (hd : decode cc pc = .ok (.return_, 1)) (hE : E none ws) : Z k j pc lv [] ws := by
  obtain ⟨p, e, s, m, args, below, meth, c, A, H0, Qc, hZ, hx, hb, hml, hown, hts, hK, hA, hN, hnm, hret, hlk, hend⟩ := hX
  subst hk
  subst hj
  exact (hZ _ _ _ _ _ _).mpr (fun ls H locs hl hP hD hS => W.vret hx hb (hret.trans hr) (fun t ht hW => hend t _ ws H locs hE hP hD hS ht hW) hS.2.2 hd hlk)
end ZR
end
section
/-! calls, new objects and arrays -/
/-- ws2: the world behind a call: at isW what came back, at isR what was not given -/
def zPut (ws : va_W) (isC : List Nat) (wn ws2 : va_W) (isW isR : List Nat) (L : Nat) : Prop := isW.map (fun i => ws2[i]?) = wn.map some ∧ isR.map (fun i => ws2[i]?) = isR.map (fun i => ws[i]?) ∧ ws2.length = L ∧ (∀ i, i < L → i ∈ isW ∨ i ∈ isR) ∧ (∀ i ∈ isR, i ∉ isC)
theorem zC_get {ws wc : va_W} {is : List Nat} (h : is.map (fun i => ws[i]?) = wc.map some) {a : Nat} {q : Nat × va_E} (hq : wc[a]? = some q) : ∃ i : Nat, is[a]? = some i ∧ ws[i]? = some q := by
  have h1 : (is.map (fun i => ws[i]?))[a]? = some (some q) := by rw [h, List.getElem?_map, hq]; rfl
  rw [List.getElem?_map] at h1
  cases hi : is[a]? with
  | none => rw [hi] at h1; cases h1
  | some i => rw [hi] at h1; exact ⟨i, rfl, Option.some.inj h1⟩
theorem zC_of {ws wc : va_W} {is : List Nat} (h : is.map (fun i => ws[i]?) = wc.map some) {i : Nat} {q : Nat × va_E} (hi : i ∈ is) (hq : ws[i]? = some q) : ∃ a : Nat, is[a]? = some i ∧ wc[a]? = some q := by
  obtain ⟨a, ha⟩ := List.getElem?_of_mem hi
  have h1 : (is.map (fun i => ws[i]?))[a]? = some (some q) := by rw [List.getElem?_map, ha, ← hq]; rfl
  rw [h, List.getElem?_map] at h1
  cases hw : wc[a]? with
  | none => rw [hw] at h1; cases h1
  | some x => rw [hw] at h1; exact ⟨a, ha, by rw [hw]; exact Option.some.inj h1⟩
theorem zR_same {ws ws2 : va_W} {is : List Nat} (h : is.map (fun i => ws2[i]?) = is.map (fun i => ws[i]?)) {i : Nat} (hi : i ∈ is) : ws2[i]? = ws[i]? := by
  obtain ⟨a, ha⟩ := List.getElem?_of_mem hi
  have h1 : (is.map (fun i => ws2[i]?))[a]? = some (ws2[i]?) := by rw [List.getElem?_map, ha]; rfl
  have h2 : (is.map (fun i => ws[i]?))[a]? = some (ws[i]?) := by rw [List.getElem?_map, ha]; rfl
  rw [h, h2] at h1
  exact (Option.some.inj h1).symm
theorem zPut_ok {D : va_G} {cl : List vw_C} {A : Nat → Prop} {ws wc wn ws2 : va_W} {isC isW isR : List Nat} {L : Nat} {H H1 : Heap} (hP : va_P D cl ws H) (hD : va_D A ws) (hC : isC.map (fun i => ws[i]?) = wc.map some) (hput : zPut ws isC wn ws2 isW isR L) (hk : ∀ q : Nat, q < H.size → ¬ va_A wc H.size q → H1[q]? = H[q]?) (hF : ∀ q, va_A wc H.size q → A q) (hP1 : va_P D cl wn H1) (hD1 : va_D (va_A wc H.size) wn) : va_P D cl ws2 H1 ∧ va_D A ws2 := by
  obtain ⟨p1, p2, p3, p4, p5⟩ := hput
  have side : ∀ (i : Nat) (q : Nat × va_E), ws2[i]? = some q → (∃ a : Nat, isW[a]? = some i ∧ wn[a]? = some q) ∨ (i ∈ isR ∧ ws[i]? = some q ∧ q.1 < H.size ∧ ¬ va_A wc H.size q.1) := by
    intro i q hq
    have hi : i < ws2.length := (List.getElem?_eq_some_iff.mp hq).1
    rcases p4 i (by omega) with h | h
    · exact Or.inl (zC_of p1 h hq)
    · have h1 : ws[i]? = some q := by rw [← zR_same p2 h]; exact hq
      have h2 := (hP i q h1).lt
      refine Or.inr ⟨h, h1, h2, fun hc => ?_⟩
      rcases hc with ⟨b, x, hb⟩ | hc
      · obtain ⟨i2, g1, g2⟩ := zC_get hC hb
        have := hD.1 i i2 q (q.1, x) h1 g2 rfl
        subst this
        exact p5 i h (List.mem_of_getElem? g1)
      · omega
  refine ⟨fun i q hq => ?_, fun i1 i2 q1 q2 h1 h2 h12 => ?_, fun i q hq => ?_⟩
  · rcases side i q hq with ⟨a, _, h2⟩ | ⟨_, h1, h2, h3⟩
    · exact hP1 a q h2
    · exact (hP i q h1).kept (hk q.1 h2 h3)
  · rcases side i1 q1 h1 with ⟨a1, x1, y1⟩ | ⟨_, x1, y1, z1⟩
    · rcases side i2 q2 h2 with ⟨a2, x2, y2⟩ | ⟨_, x2, y2, z2⟩
      · have := hD1.1 a1 a2 q1 q2 y1 y2 h12
        subst this
        rw [x1] at x2
        exact Option.some.inj x2
      · exact absurd (by rw [← h12]; exact hD1.2 a1 q1 y1) z2
    · rcases side i2 q2 h2 with ⟨a2, x2, y2⟩ | ⟨_, x2, y2, z2⟩
      · exact absurd (by rw [h12]; exact hD1.2 a2 q2 y2) z1
      · exact hD.1 i1 i2 q1 q2 x1 x2 h12
  · rcases side i q hq with ⟨a, _, h2⟩ | ⟨_, h1, _, _⟩
    · exact hF _ (hD1.2 a q h2)
    · exact hD.2 i q h1
section ZG
variable {p : Program} {l : Launch} {e : Env} {R : Room} {s : State} {m : MethodId} {args : Array Value} {below : List Frame} {meth : Method} {c : Code} {H H0 : Heap} {locs : List Loc} {k j mc1 ms1 : Nat} {Q : State → Prop} {A : Nat → Prop} {D : va_G} {cl : List vw_C} {tys : List (ClassId × FieldType)} {ls : Array Slot} {pc : Nat} {st st0 : List Value} {ws wc : va_W} {Ey : Option Value → va_W → Prop} {isC : List Nat} {a : Array Value}
theorem z_core (run : va_Run p l e R s m args below meth c H locs k j mc1 ms1 (F0 m pc ls st0) st (fun st oc t => (∃ (v : Option Value) (wn : va_W), oc = .returned v ∧ Ey v wn ∧ va_P D cl wn t.heap ∧ va_K D cl tys t ∧ va_D (va_A wc H.size) wn) ∧ va_F (va_A wc H.size) st t) (va_A wc H.size)) (hP : va_P D cl ws H) (hD : va_D A ws) (hS : va_S A H0 H locs) (hF : ∀ q, va_A wc H.size q → A q) (hC : isC.map (fun i => ws[i]?) = wc.map some)
    (kk : ∀ (v : Option Value) (wn : va_W), Ey v wn → ∃ (ws2 : va_W) (isW isR : List Nat) (L : Nat), zPut ws isC wn ws2 isW isR L ∧ ∀ (H1 : Heap) (locs1 : List Loc), va_P D cl ws2 H1 → va_D A ws2 → va_S A H0 H1 locs1 → W p l e R s m args below meth c H1 locs1 (k + mc1) (j + ms1) Q (F0 m (pc + 3) ls (v.toList ++ st))) : W p l e R s m args below meth c H locs k j Q (F0 m pc ls st0) := by
  intro T hT X
  obtain ⟨v, st₀, t, T', L, h0, X', hL, e1, e2, ⟨⟨v', wn, hv, hE, hP1, hK1, hD1⟩, hz, hk⟩, stp⟩ := run T hT X
  cases hv
  rw [h0] at hz hk
  obtain ⟨ws2, isW, isR, n, hput, hW⟩ := kk v wn hE
  obtain ⟨q1, q2⟩ := zPut_ok hP hD hC hput hk hF hP1 hD1
  obtain ⟨t2, a1, b1⟩ := hW T'.heap (locs ++ L) (by rw [e1]; exact q1) q2
    ⟨Nat.le_trans hS.1 (by rw [e1]; exact hz), fun q h1 h2 => by rw [e1, hk q (Nat.lt_of_lt_of_le h1 hS.1) (fun z => h2 (hF q z))]; exact hS.2.1 q h1 h2, fun q hq => by
      rcases List.mem_append.mp hq with h | h
      · exact hS.2.2 q h
      · exact hF _ (hL q h)⟩ T' rfl X'
  exact ⟨t2, stp t2 a1, b1⟩
theorem z_blind {av : List Value} {sz : Nat} {NW : List (String × Nat × MethodName × String)} : FrameBlind (va_Pc av (fun U => U.heap.size = sz ∧ va_P D cl wc U.heap ∧ va_K D cl tys U ∧ va_D (fun _ => True) wc ∧ zN NW U)) := by
  intro a U g mk q
  obtain ⟨q0, q1, qP, qK, qD, qN⟩ := q
  exact ⟨q0, q1, qP, va_K.moved (u := U) (U := U.calling g mk a) (Vm.Alike.refl U.vm) qK, qD, qN.calling⟩
theorem z_pre {av : List Value} {NW : List (String × Nat × MethodName × String)} (hP : va_P D cl ws H) (hD : va_D A ws) (hK : va_K D cl tys s) (hN : zN NW s) (hC : isC.map (fun i => ws[i]?) = wc.map some) (hnd : va_nd isC = true) : ∀ U : State, U.heap = H → s.WarmedH U.vm → va_Pc av (fun U => U.heap.size = H.size ∧ va_P D cl wc U.heap ∧ va_K D cl tys U ∧ va_D (fun _ => True) wc ∧ zN NW U) av.toArray U := by
  intro U hU hW
  refine ⟨rfl, by rw [hU], ?_, va_K.moved hW.alike hK, (hD.sub isC hnd hC).weaken (fun _ _ _ _ => trivial), hN.warm hW⟩
  rw [hU]
  intro b q hq
  obtain ⟨i, _, h2⟩ := zC_get hC hq
  exact hP i q h2
end ZG
section ZK
variable {Z : zF} {l : Launch} {R : Room} {D : va_G} {cl : List vw_C} {tys : List (ClassId × FieldType)} {NW : List (String × Nat × MethodName × String)} {cc : ByteArray} {nL : Nat} {own : String} {Ts : List Cond} {mc ms : Nat} {ret : Option FieldType} {nm : String} {E : Option Value → va_W → Prop} {k j pc : Nat} {lv : List (Option Value)} {st st0 : List Value} {ws wc : va_W}
variable {y : MethodName} {wy wy' : List Cond} {rm : Room} {mc1 ms1 n ix : Nat} {bytes : ByteArray} {maxL : Nat} {r : Option FieldType} {As : List Value} {Ey : Option Value → va_W → Prop}
theorem z_callV (hX : zX Z l R D cl tys NW cc nL own Ts mc ms ret nm E) {b ci N : Nat} {fs : List Value} {T : u_T} {C : String} (hM : zM l y wy rm D cl tys NW mc1 ms1 (.ref b :: As) wc Ey) (hG : GoodIn Ts (wsV own ix C y wy)) (hw : wy = Cond.code y bytes maxL r :: wy') (hrc : rm.cells = mc1) (hrs : rm.slots = ms1) (hd0 : y.cls = C ∧ y.cls ≠ "java/lang/invoke/MethodHandle" ∧ y.cls ≠ "java/lang/invoke/VarHandle" ∧ (parseMethodDescriptor y.desc).map (fun d => d.parameters.length) = some n) (hR : rm.frames + 1 ≤ R.frames ∧ 8 + (maxL + 11) + rm.locals ≤ R.locals) (q0 : Nat) (he : ws[q0]? = some (b, .inr (ci, fs))) (hc : cl[ci]? = some (C, T, N)) (hn : As.length = n) (hst : st0 = As.reverse ++ .ref b :: st) (hcat : (st.map fun v => v.category).sum ≤ 8) (hd : decode cc pc = .ok (.invokevirtual ix, 3)) (hf : k + mc1 ≤ R.cells ∧ j + ms1 ≤ R.slots) (isC : List Nat) (hC : isC.map (fun i => ws[i]?) = wc.map some) (hnd : va_nd isC = true) (kk : ∀ (v : Option Value) (wn : va_W), Ey v wn → ∃ (ws2 : va_W) (isW isR : List Nat) (L : Nat), zPut ws isC wn ws2 isW isR L ∧ Z (k + mc1) (j + ms1) (pc + 3) lv (v.toList ++ st) ws2) : Z k j pc lv st0 ws := by
  obtain ⟨p, e, s, m, args, below, meth, c, A, H0, Qc, hZ, hx, hb, hml, hown, hts, hK, hA, hN, hnm, hret, hlk, hend⟩ := hX
  refine (hZ _ _ _ _ _ _).mpr (fun ls H locs hl hP hD hS => ?_)
  have run := va_runV (e := e) (below := below) (meth := meth) (H := H) (locs := locs) (cells := k) (slots := j) (As := As) (rest := st) (g := F0 m pc ls st0) ⟨hx, hb, hml, hown, hts⟩ (hM H.size) (cwV (R := R) n hts hG hw hrc hrs hd0 hR) ⟨z_blind, va_recv hK hP hc he, z_pre hP hD hK hN hC hnd⟩ rfl hn hl.1 hst (lv_room hcat) hd hf
  refine z_core run hP hD hS (va_free hD hS hA isC hC) hC (fun v wn hE => ?_)
  obtain ⟨ws2, isW, isR, L, h1, h2⟩ := kk v wn hE
  exact ⟨ws2, isW, isR, L, h1, fun H1 locs1 hP1 hD1 hS1 => (hZ _ _ _ _ _ _).mp h2 ls H1 locs1 hl hP1 hD1 hS1⟩
theorem z_callS (hX : zX Z l R D cl tys NW cc nL own Ts mc ms ret nm E) (hM : zM l y wy rm D cl tys NW mc1 ms1 As wc Ey) (hG : GoodIn Ts (wsS own ix y wy)) (hw : wy = Cond.code y bytes maxL r :: wy') (hrc : rm.cells = mc1) (hrs : rm.slots = ms1) (hd0 : y.cls = own ∧ y.cls ≠ "java/lang/invoke/MethodHandle" ∧ y.cls ≠ "java/lang/invoke/VarHandle" ∧ (parseMethodDescriptor y.desc).map (fun d => d.parameters.length) = some n) (hR : rm.frames + 1 ≤ R.frames ∧ 8 + (maxL + 11) + rm.locals ≤ R.locals) (hn : As.length = n) (hst : st0 = As.reverse ++ st) (hcat : (st.map fun v => v.category).sum ≤ 8) (hd : decode cc pc = .ok (.invokestatic ix, 3)) (hf : k + mc1 ≤ R.cells ∧ j + ms1 ≤ R.slots) (isC : List Nat) (hC : isC.map (fun i => ws[i]?) = wc.map some) (hnd : va_nd isC = true) (kk : ∀ (v : Option Value) (wn : va_W), Ey v wn → ∃ (ws2 : va_W) (isW isR : List Nat) (L : Nat), zPut ws isC wn ws2 isW isR L ∧ Z (k + mc1) (j + ms1) (pc + 3) lv (v.toList ++ st) ws2) : Z k j pc lv st0 ws := by
  obtain ⟨p, e, s, m, args, below, meth, c, A, H0, Qc, hZ, hx, hb, hml, hown, hts, hK, hA, hN, hnm, hret, hlk, hend⟩ := hX
  refine (hZ _ _ _ _ _ _).mpr (fun ls H locs hl hP hD hS => ?_)
  have run := va_runS (e := e) (below := below) (meth := meth) (H := H) (locs := locs) (cells := k) (slots := j) (As := As) (rest := st) (g := F0 m pc ls st0) ⟨hx, hb, hml, hown, hts⟩ (hM H.size) (cwS (R := R) n hts hG hw hrc hrs hd0 hR) ⟨z_blind, z_pre hP hD hK hN hC hnd⟩ rfl hn hl.1 hst (lv_room hcat) hd hf
  refine z_core run hP hD hS (va_free hD hS hA isC hC) hC (fun v wn hE => ?_)
  obtain ⟨ws2, isW, isR, L, h1, h2⟩ := kk v wn hE
  exact ⟨ws2, isW, isR, L, h1, fun H1 locs1 hP1 hD1 hS1 => (hZ _ _ _ _ _ _).mp h2 ls H1 locs1 hl hP1 hD1 hS1⟩
theorem z_callN (hX : zX Z l R D cl tys NW cc nL own Ts mc ms ret nm E) (host : String) (hM : zM l y wy rm D cl tys NW mc1 ms1 As wc Ey) (hG : GoodIn Ts wy) (hw : wy = Cond.code y bytes maxL r :: wy') (hrc : rm.cells = mc1) (hrs : rm.slots = ms1) (hnw : (own, ix, y, host) ∈ NW) (hini : Cond.initialized y.cls ∈ Ts) (hsta : Cond.static y ∈ Ts) (hd0 : y.cls ≠ "java/lang/invoke/MethodHandle" ∧ y.cls ≠ "java/lang/invoke/VarHandle" ∧ (parseMethodDescriptor y.desc).map (fun d => d.parameters.length) = some n) (hR : rm.frames + 1 ≤ R.frames ∧ 8 + (maxL + 11) + rm.locals ≤ R.locals) (hn : As.length = n) (hst : st0 = As.reverse ++ st) (hcat : (st.map fun v => v.category).sum ≤ 8) (hd : decode cc pc = .ok (.invokestatic ix, 3)) (hf : k + mc1 ≤ R.cells ∧ j + ms1 ≤ R.slots) (isC : List Nat) (hC : isC.map (fun i => ws[i]?) = wc.map some) (hnd : va_nd isC = true) (kk : ∀ (v : Option Value) (wn : va_W), Ey v wn → ∃ (ws2 : va_W) (isW isR : List Nat) (L : Nat), zPut ws isC wn ws2 isW isR L ∧ Z (k + mc1) (j + ms1) (pc + 3) lv (v.toList ++ st) ws2) : Z k j pc lv st0 ws := by
  obtain ⟨p, e, s, m, args, below, meth, c, A, H0, Qc, hZ, hx, hb, hml, hown, hts, hK, hA, hN, hnm, hret, hlk, hend⟩ := hX
  refine (hZ _ _ _ _ _ _).mpr (fun ls H locs hl hP hD hS => ?_)
  have run := va_runSN (e := e) (below := below) (meth := meth) (H := H) (locs := locs) (cells := k) (slots := j) (As := As) (rest := st) (g := F0 m pc ls st0) ⟨hx, hb, hml, hown, hts⟩ (hM H.size) ⟨va_cnB (R := R) n hts hG hw hrc hrs (hN _ hnw) (hts _ hini) hd0 hR, hts _ hsta, trivial⟩ ⟨z_blind, z_pre hP hD hK hN hC hnd⟩ rfl hn hl.1 hst (lv_room hcat) hd hf
  refine z_core run hP hD hS (va_free hD hS hA isC hC) hC (fun v wn hE => ?_)
  obtain ⟨ws2, isW, isR, L, h1, h2⟩ := kk v wn hE
  exact ⟨ws2, isW, isR, L, h1, fun H1 locs1 hP1 hD1 hS1 => (hZ _ _ _ _ _ _).mp h2 ls H1 locs1 hl hP1 hD1 hS1⟩
theorem z_callI (hX : zX Z l R D cl tys NW cc nL own Ts mc ms ret nm E) {b : Nat} (hM : zM l y wy rm D cl tys NW mc1 ms1 (.ref b :: As) wc Ey) (hG : GoodIn Ts wy) (hw : wy = Cond.code y bytes maxL none :: wy') (hrc : rm.cells = mc1) (hrs : rm.slots = ms1) (hini : Cond.initialized y.cls ∈ Ts) (hlink : Cond.methodLink own ix y ∈ Ts) (hins : Cond.instanceMethod y ∈ Ts) (hy1 : y.name = "<init>") (hd0 : y.cls ≠ "java/lang/invoke/MethodHandle" ∧ y.cls ≠ "java/lang/invoke/VarHandle" ∧ (parseMethodDescriptor y.desc).map (fun d => d.parameters.length) = some n) (hR : rm.frames + 1 ≤ R.frames ∧ 8 + (maxL + 11) + rm.locals ≤ R.locals) (hn : As.length = n) (hst : st0 = As.reverse ++ .ref b :: st) (hcat : (st.map fun v => v.category).sum ≤ 8) (hd : decode cc pc = .ok (.invokespecial ix, 3)) (hf : k + mc1 ≤ R.cells ∧ j + ms1 ≤ R.slots) (isC : List Nat) (hC : isC.map (fun i => ws[i]?) = wc.map some) (hnd : va_nd isC = true) (kk : ∀ (v : Option Value) (wn : va_W), Ey v wn → ∃ (ws2 : va_W) (isW isR : List Nat) (L : Nat), zPut ws isC wn ws2 isW isR L ∧ Z (k + mc1) (j + ms1) (pc + 3) lv (v.toList ++ st) ws2) : Z k j pc lv st0 ws := by
  obtain ⟨p, e, s, m, args, below, meth, c, A, H0, Qc, hZ, hx, hb, hml, hown, hts, hK, hA, hN, hnm, hret, hlk, hend⟩ := hX
  refine (hZ _ _ _ _ _ _).mpr (fun ls H locs hl hP hD hS => ?_)
  have run := va_runI (e := e) (below := below) (meth := meth) (H := H) (locs := locs) (cells := k) (slots := j) (As := As) (rest := st) (g := F0 m pc ls st0) ⟨hx, hb, hml, hown, hts⟩ (hM H.size) (cwI (R := R) n hts hG hw hrc hrs (hts _ hini) (hts _ hlink) (hts _ hins) hy1 hd0 hR) ⟨z_blind, z_pre hP hD hK hN hC hnd⟩ rfl hn hl.1 hst (lv_room hcat) hd hf
  refine z_core run hP hD hS (va_free hD hS hA isC hC) hC (fun v wn hE => ?_)
  obtain ⟨ws2, isW, isR, L, h1, h2⟩ := kk v wn hE
  exact ⟨ws2, isW, isR, L, h1, fun H1 locs1 hP1 hD1 hS1 => (hZ _ _ _ _ _ _).mp h2 ls H1 locs1 hl hP1 hD1 hS1⟩
theorem z_objInit (hX : zX Z l R D cl tys NW cc nL own Ts mc ms ret nm E) {a : Nat} (h1 : Cond.methodLink own ix Lib.objectInit ∈ Ts) (h2 : Cond.instanceMethod Lib.objectInit ∈ Ts) (h3 : Cond.code Lib.objectInit ⟨#[0xb1]⟩ 1 none ∈ Ts) (hfr : 1 ≤ R.frames) (hlo : (st.map fun v => v.category).sum + 12 ≤ R.locals) (hd : decode cc pc = .ok (.invokespecial ix, 3)) (kk : Z k j (pc + 3) lv st ws) : Z k j pc lv (.ref a :: st) ws := by
  obtain ⟨p, e, s, m, args, below, meth, c, A, H0, Qc, hZ, hx, hb, hml, hown, hts, hK, hA, hN, hnm, hret, hlk, hend⟩ := hX
  exact (hZ _ _ _ _ _ _).mpr (fun ls H locs hl hP hD hS => W.objInit hx hb hown (hts _ h1) (hts _ h2) (hts _ h3) (g := F0 m pc ls (.ref a :: st)) rfl (by rw [hml]; exact hl.1) rfl hd hfr (by show 2 * 0 + _ + 12 ≤ _; omega) ((hZ _ _ _ _ _ _).mp kk ls H locs hl hP hD hS))
theorem z_new (hX : zX Z l R D cl tys NW cc nL own Ts mc ms ret nm E) {C : String} {T : u_T} {N ci : Nat} {fs : List Value} (hc : cl[ci]? = some (C, T, N)) (hin : ∀ w ∈ u_ws C T N, w ∈ Ts) (ty0 : Nat → FieldType) (hty : ∀ k, k < N → parseFieldDescriptor (T k).2.2.1 = some (ty0 k)) (hlink : Cond.classLink own ix C ∈ Ts) (hins : Cond.instantiable C N ∈ Ts) (hini : Cond.initialized C ∈ Ts) (hfs : ∀ a, a < N → defaultValue (ty0 a) = vp_V fs a) (hce : k + 1 ≤ R.cells) (hsl : j + N ≤ R.slots) (hd : decode cc pc = .ok (.new ix, 3)) (kk : ∀ q : Nat, Z (k + 1) (j + N) (pc + 3) lv (.ref q :: st) (ws ++ [(q, .inr (ci, fs))])) : Z k j pc lv st ws := by
  obtain ⟨p, e, s, m, args, below, meth, c, A, H0, Qc, hZ, hx, hb, hml, hown, hts, hK, hA, hN, hnm, hret, hlk, hend⟩ := hX
  exact (hZ _ _ _ _ _ _).mpr (fun ls H locs hl hP hD hS => va_new hx hb hts hin ty0 hty hown (hts _ hlink) (hts _ hins) (hts _ hini) hK hP hD hS hA hc hfs hce hsl hd (fun q H1 hP1 hD1 hS1 => (hZ _ _ _ _ _ _).mp (kk q) ls H1 locs hl hP1 hD1 hS1))
theorem z_newi (hX : zX Z l R D cl tys NW cc nL own Ts mc ms ret nm E) {cA : ClassId} {x : Int32} (t0 i : Nat) (ht : tys[t0]? = some (cA, .int)) (harr : Cond.arrayClass .int ∈ Ts) (hx0 : x = nI i) (hi : i ≤ 100000) (hce : k + 1 ≤ R.cells) (hsl : j + i ≤ R.slots) (hd : decode cc pc = .ok (.newarray .int, 2)) (kk : ∀ q : Nat, Z (k + 1) (j + i) (pc + 2) lv (.ref q :: st) (ws ++ [(q, .inl (cA, i, .inl (fun _ => 0)))])) : Z k j pc lv (.int x :: st) ws := by
  obtain ⟨p, e, s, m, args, below, meth, c, A, H0, Qc, hZ, hx, hb, hml, hown, hts, hK, hA, hN, hnm, hret, hlk, hend⟩ := hX
  subst hx0
  refine (hZ _ _ _ _ _ _).mpr (fun ls H locs hl hP hD hS => va_newa (atype := .int) (ty := .int) (a0 := (i, .inl (fun _ => 0))) hx hb (hts _ harr) rfl hK hP hD hS hA (fun _ => rfl) (nI_pos (by omega)) (nI_clamp (by omega)) (by show i * 4 ≤ _; omega) hce hsl hd (fun q cB H1 hK1 hP1 hD1 hS1 => ?_))
  have e1 : s.vm.findClass ("[" ++ FieldType.int.toString) = some cB := (hK1.2 tys.length (cB, .int) (by rw [List.getElem?_append_right (Nat.le_refl _), Nat.sub_self]; rfl)).2
  have e2 : s.vm.findClass ("[" ++ FieldType.int.toString) = some cA := (hK.2 t0 _ ht).2
  rw [e1] at e2
  cases e2
  exact (hZ _ _ _ _ _ _).mp (kk q) ls H1 locs hl hP1 hD1 hS1
theorem z_newz (hX : zX Z l R D cl tys NW cc nL own Ts mc ms ret nm E) {cA : ClassId} {x : Int32} (t0 i : Nat) (ht : tys[t0]? = some (cA, .boolean)) (harr : Cond.arrayClass .boolean ∈ Ts) (hx0 : x = nI i) (hi : i ≤ 100000) (hce : k + 1 ≤ R.cells) (hsl : j + i ≤ R.slots) (hd : decode cc pc = .ok (.newarray .boolean, 2)) (kk : ∀ q : Nat, Z (k + 1) (j + i) (pc + 2) lv (.ref q :: st) (ws ++ [(q, .inl (cA, i, .inl (fun _ => 0)))])) : Z k j pc lv (.int x :: st) ws := by
  obtain ⟨p, e, s, m, args, below, meth, c, A, H0, Qc, hZ, hx, hb, hml, hown, hts, hK, hA, hN, hnm, hret, hlk, hend⟩ := hX
  subst hx0
  refine (hZ _ _ _ _ _ _).mpr (fun ls H locs hl hP hD hS => va_newa (atype := .boolean) (ty := .boolean) (a0 := (i, .inl (fun _ => 0))) hx hb (hts _ harr) rfl hK hP hD hS hA (fun _ => rfl) (nI_pos (by omega)) (nI_clamp (by omega)) (by show i * 1 ≤ _; omega) hce hsl hd (fun q cB H1 hK1 hP1 hD1 hS1 => ?_))
  have e1 : s.vm.findClass ("[" ++ FieldType.boolean.toString) = some cB := (hK1.2 tys.length (cB, .boolean) (by rw [List.getElem?_append_right (Nat.le_refl _), Nat.sub_self]; rfl)).2
  have e2 : s.vm.findClass ("[" ++ FieldType.boolean.toString) = some cA := (hK.2 t0 _ ht).2
  rw [e1] at e2
  cases e2
  exact (hZ _ _ _ _ _ _).mp (kk q) ls H1 locs hl hP1 hD1 hS1
theorem z_dup2 (hX : zX Z l R D cl tys NW cc nL own Ts mc ms ret nm E) {v w : Value} (hd : decode cc pc = .ok (.dup2, 1)) (hv : v.category = 1) (hw : w.category = 1) (kk : Z k j (pc + 1) lv (v :: w :: v :: w :: st) ws) : Z k j pc lv (v :: w :: st) ws := by
  obtain ⟨p, e, s, m, args, below, meth, c, A, H0, Qc, hZ, hx, hb, hml, hown, hts, hK, hA, hN, hnm, hret, hlk, hend⟩ := hX
  exact (hZ _ _ _ _ _ _).mpr (fun ls H locs hl hP hD hS => lv_dup2_11 hx hb hd hv hw ((hZ _ _ _ _ _ _).mp kk ls H locs hl hP hD hS))
theorem z_mmax (hX : zX Z l R D cl tys NW cc nL own Ts mc ms ret nm E) {x z : Int32} (hlink : Cond.methodLink own ix Lib.Math.max.name ∈ Ts) (hsta : Cond.static Lib.Math.max.name ∈ Ts) (hini : Cond.initialized "java/lang/Math" ∈ Ts) (hcode : Cond.code Lib.Math.max.name Lib.Math.max.code 2 (some .int) ∈ Ts) (hfr : 1 ≤ R.frames) (hlo : (st.map fun v => v.category).sum + 13 ≤ R.locals) (hce : k ≤ R.cells) (hsl : j ≤ R.slots) (hd : decode cc pc = .ok (.invokestatic ix, 3)) (kk : Z k j (pc + 3) lv (.int (if x < z then z else x) :: st) ws) : Z k j pc lv (.int z :: .int x :: st) ws := by
  obtain ⟨p, e, s, m, args, below, meth, c, A, H0, Qc, hZ, hx, hb, hml, hown, hts, hK, hA, hN, hnm, hret, hlk, hend⟩ := hX
  exact (hZ _ _ _ _ _ _).mpr (fun ls H locs hl hP hD hS => va_mmax hx hb (by rw [hml]; exact hl.1.symm) hown (hts _ hlink) (hts _ hsta) (hts _ hini) (hts _ hcode) hfr hlo hce hsl hd ((hZ _ _ _ _ _ _).mp kk ls H locs hl hP hD hS))
theorem z_mmin (hX : zX Z l R D cl tys NW cc nL own Ts mc ms ret nm E) {x z : Int32} (hlink : Cond.methodLink own ix Lib.Math.min.name ∈ Ts) (hsta : Cond.static Lib.Math.min.name ∈ Ts) (hini : Cond.initialized "java/lang/Math" ∈ Ts) (hcode : Cond.code Lib.Math.min.name Lib.Math.min.code 2 (some .int) ∈ Ts) (hfr : 1 ≤ R.frames) (hlo : (st.map fun v => v.category).sum + 13 ≤ R.locals) (hce : k ≤ R.cells) (hsl : j ≤ R.slots) (hd : decode cc pc = .ok (.invokestatic ix, 3)) (kk : Z k j (pc + 3) lv (.int (if z < x then z else x) :: st) ws) : Z k j pc lv (.int z :: .int x :: st) ws := by
  obtain ⟨p, e, s, m, args, below, meth, c, A, H0, Qc, hZ, hx, hb, hml, hown, hts, hK, hA, hN, hnm, hret, hlk, hend⟩ := hX
  exact (hZ _ _ _ _ _ _).mpr (fun ls H locs hl hP hD hS => va_mmin hx hb (by rw [hml]; exact hl.1.symm) hown (hts _ hlink) (hts _ hsta) (hts _ hini) (hts _ hcode) hfr hlo hce hsl hd ((hZ _ _ _ _ _ _).mp kk ls H locs hl hP hD hS))
end ZK
end
section
/-! sets of blocks as bits of an int; arrays of numbers -/
def bt (x : Int32) (i : Nat) : Bool := x.toBitVec.getLsbD i
theorem b_ext {x y : Int32} (h : ∀ i, i < 32 → bt x i = bt y i) : x = y := Int32.toBitVec_inj.mp (BitVec.eq_of_getLsbD_eq (fun i hi => h i hi))
theorem b_or (x y : Int32) (i : Nat) : bt (x ||| y) i = (bt x i || bt y i) := by unfold bt; rw [Int32.toBitVec_or, BitVec.getLsbD_or]
theorem b_and (x y : Int32) (i : Nat) : bt (x &&& y) i = (bt x i && bt y i) := by unfold bt; rw [Int32.toBitVec_and, BitVec.getLsbD_and]
theorem b_xor (x y : Int32) (i : Nat) : bt (x ^^^ y) i = (bt x i ^^ bt y i) := by unfold bt; rw [Int32.toBitVec_xor, BitVec.getLsbD_xor]
theorem b_big {x : Int32} {i : Nat} (h : 32 ≤ i) : bt x i = false := BitVec.getLsbD_of_ge _ _ h
theorem b_m1 : ∀ i, i < 32 → bt (-1) i = true := by decide +kernel
theorem b_0 (i : Nat) : bt 0 i = false := BitVec.getLsbD_zero
theorem s_l : ∀ n, n < 32 → ((nI n &&& 31).toBitVec.smod 32).toNat = n := by decide +kernel
theorem b_shl (n : Nat) (hn : n < 32) (x : Int32) {i : Nat} (hi : i < 32) : bt (x <<< (nI n &&& 31)) i = (decide (n ≤ i) && bt x (i - n)) := by
  unfold bt
  rw [Int32.toBitVec_shiftLeft]
  show (x.toBitVec <<< ((nI n &&& 31).toBitVec.smod 32).toNat).getLsbD i = _
  rw [s_l n hn, BitVec.getLsbD_shiftLeft]
  rcases Nat.lt_or_ge i n with h | h
  · simp [h, Nat.not_le.mpr h]
  · simp [hi, h, Nat.not_lt.mpr h]
theorem b_sshr (n : Nat) (hn : n < 32) (x : Int32) {i : Nat} (hi : i < 32) : bt (x >>> (nI n &&& 31)) i = if n + i < 32 then bt x (n + i) else bt x 31 := by
  unfold bt
  rw [Int32.toBitVec_shiftRight]
  show (x.toBitVec.sshiftRight ((nI n &&& 31).toBitVec.smod 32).toNat).getLsbD i = _
  rw [s_l n hn, BitVec.getLsbD_sshiftRight, BitVec.msb_eq_getLsbD_last]
  simp [hi]
theorem b_1 (i : Nat) : bt 1 i = decide (i = 0) := by
  rcases Nat.lt_or_ge i 32 with h | h
  · exact (by decide +kernel : ∀ i, i < 32 → bt 1 i = decide (i = 0)) i h
  · rw [b_big h, decide_eq_false (by omega)]
def zb_n (S : Nat → Bool) : Nat → Nat
  | 0 => 0
  | k + 1 => 2 ^ k * (S k).toNat + zb_n S k
theorem zb_lt (S : Nat → Bool) (k : Nat) : zb_n S k < 2 ^ k := by
  induction k with
  | zero => exact Nat.lt_succ_self 0
  | succ k ih =>
    show 2 ^ k * (S k).toNat + zb_n S k < 2 ^ (k + 1)
    rw [Nat.pow_succ]
    generalize 2 ^ k = P at ih ⊢
    cases S k
    · show P * 0 + _ < _; omega
    · show P * 1 + _ < _; omega
theorem zb_tb (S : Nat → Bool) (k i : Nat) : (zb_n S k).testBit i = (decide (i < k) && S i) := by
  induction k with
  | zero =>
    rw [decide_eq_false (Nat.not_lt_zero i), Bool.false_and]
    exact Nat.zero_testBit i
  | succ k ih =>
    show (2 ^ k * (S k).toNat + zb_n S k).testBit i = _
    rw [Nat.testBit_two_pow_mul_add _ (zb_lt S k), ih]
    by_cases h1 : i < k
    · rw [if_pos h1, decide_eq_true h1, decide_eq_true (show i < k + 1 by omega)]
    · rw [if_neg h1]
      by_cases h2 : i = k
      · subst h2
        rw [Nat.sub_self, decide_eq_true (show i < i + 1 by omega), Bool.true_and]
        cases S i <;> decide
      · rw [decide_eq_false (show ¬ i < k + 1 by omega), Bool.false_and]
        obtain ⟨t, ht⟩ : ∃ t, i - k = t + 1 := ⟨i - k - 1, by omega⟩
        rw [ht]
        cases S k
        · exact Nat.zero_testBit _
        · show Nat.testBit 1 (t + 1) = false
          rw [Nat.testBit_succ]
          exact Nat.zero_testBit _
/-- the int of a set of blocks below 31 -/
def bS (S : Nat → Bool) : Int32 := nI (zb_n S 31)
theorem bS_bt (S : Nat → Bool) (i : Nat) : bt (bS S) i = (decide (i < 31) && S i) := by
  show (BitVec.ofNat 32 (zb_n S 31)).getLsbD i = _
  rw [BitVec.getLsbD_ofNat, zb_tb]
  by_cases h : i < 31
  · rw [decide_eq_true h, decide_eq_true (show i < 32 by omega), Bool.true_and]
  · rw [decide_eq_false h, Bool.false_and, Bool.and_false]
theorem bS_congr {S T : Nat → Bool} (h : ∀ i, i < 31 → S i = T i) : bS S = bS T := b_ext (fun i _ => by
  rw [bS_bt, bS_bt]
  by_cases hi : i < 31
  · rw [h i hi]
  · rw [decide_eq_false hi, Bool.false_and, Bool.false_and])
theorem bS_eq {S T : Nat → Bool} : bS S = bS T ↔ ∀ i, i < 31 → S i = T i := by
  constructor
  · intro h i hi
    have h1 := congrArg (fun x => bt x i) h
    simp only [bS_bt, decide_eq_true hi, Bool.true_and] at h1
    exact h1
  · exact bS_congr
theorem bS_or (S T : Nat → Bool) : bS S ||| bS T = bS (fun i => S i || T i) := b_ext (fun i _ => by
  rw [b_or, bS_bt, bS_bt, bS_bt]
  cases decide (i < 31) <;> rfl)
theorem bS_and (S T : Nat → Bool) : bS S &&& bS T = bS (fun i => S i && T i) := b_ext (fun i _ => by
  rw [b_and, bS_bt, bS_bt, bS_bt]
  cases decide (i < 31) <;> rfl)
theorem bS_andn (S T : Nat → Bool) : bS S &&& (bS T ^^^ (-1)) = bS (fun i => S i && !T i) := b_ext (fun i hi => by
  rw [b_and, b_xor, bS_bt, bS_bt, bS_bt, b_m1 i hi]
  cases decide (i < 31) <;> cases S i <;> cases T i <;> rfl)
theorem bS_bit {b : Nat} (hb : b < 31) : (1 : Int32) <<< (nI b &&& 31) = bS (fun i => decide (i = b)) := b_ext (fun i hi => by
  rw [b_shl b (by omega) 1 hi, bS_bt, b_1]
  by_cases h : i = b
  · subst h
    rw [decide_eq_true (Nat.le_refl i), decide_eq_true hb, Nat.sub_self]
    simp
  · rw [decide_eq_false h, Bool.and_false]
    by_cases h2 : b ≤ i
    · rw [decide_eq_false (show ¬ i - b = 0 by omega), Bool.and_false]
    · rw [decide_eq_false h2, Bool.false_and])
theorem bS_put (S : Nat → Bool) (b : Nat) : bS S ||| bS (fun i => decide (i = b)) = bS (va_up S b true) := by
  rw [bS_or]
  refine bS_congr (fun i _ => ?_)
  by_cases h : i = b
  · simp [va_up, h]
  · simp [va_up, h]
theorem bS_cut (S : Nat → Bool) (b : Nat) : bS S &&& (bS (fun i => decide (i = b)) ^^^ (-1)) = bS (va_up S b false) := by
  rw [bS_andn]
  refine bS_congr (fun i _ => ?_)
  by_cases h : i = b
  · simp [va_up, h]
  · simp [va_up, h]
def bN (b : Bool) : Int32 := if b = true then 1 else 0
theorem bS_in (S : Nat → Bool) {b : Nat} (hb : b < 31) : (bS S >>> (nI b &&& 31)) &&& 1 = bN (S b) := b_ext (fun i hi => by
  rw [b_and, b_sshr b (by omega) _ hi, b_1]
  by_cases h : i = 0
  · subst h
    rw [if_pos (by omega), Nat.add_zero, bS_bt, decide_eq_true hb]
    cases S b <;> decide
  · rw [decide_eq_false h, Bool.and_false]
    unfold bN
    cases S b
    · show false = bt 0 i; rw [b_0]
    · show false = bt 1 i; rw [b_1, decide_eq_false h])
theorem bS_all : ∀ n, n < 13 → ((1 : Int32) <<< (nI n &&& 31)) - 1 = bS (fun i => decide (i < n)) := by decide +kernel
theorem bS_none : bS (fun _ => false) = 0 := by decide +kernel
theorem bN_0 (b : Bool) : bN b = 0 ↔ b = false := by cases b <;> decide
theorem bN_n (b : Bool) : narrow .boolean (.int (bN b)) = .int (bN b) := by cases b <;> decide
theorem bN_v (b : Bool) : vp_nar .boolean (bN b) = bN b := by cases b <;> decide
/-- arrays of naturals, integers, truth values -/
def aN (g : Nat → Nat) : Nat → Int32 := fun x => nI (g x)
def aI (g : Nat → Int) : Nat → Int32 := fun x => Int32.ofInt (g x)
def aB (g : Nat → Bool) : Nat → Int32 := fun x => bN (g x)
theorem aN_up (g : Nat → Nat) (i v : Nat) : upd (aN g) i (nI v) = aN (va_up g i v) := by
  funext x
  by_cases h : x = i
  · subst h; rw [pk_us]; show _ = nI _; rw [va_up_self]
  · rw [pk_un h]; show nI _ = nI _; rw [va_up_ne _ _ h]
theorem aI_up (g : Nat → Int) (i : Nat) (v : Int) : upd (aI g) i (Int32.ofInt v) = aI (va_up g i v) := by
  funext x
  by_cases h : x = i
  · subst h; rw [pk_us]; show _ = Int32.ofInt _; rw [va_up_self]
  · rw [pk_un h]; show Int32.ofInt _ = Int32.ofInt _; rw [va_up_ne _ _ h]
theorem aB_up (g : Nat → Bool) (i : Nat) (v : Bool) : upd (aB g) i (vp_nar .boolean (bN v)) = aB (va_up g i v) := by
  rw [bN_v]
  funext x
  by_cases h : x = i
  · subst h; rw [pk_us]; show _ = bN _; rw [va_up_self]
  · rw [pk_un h]; show bN _ = bN _; rw [va_up_ne _ _ h]
theorem aN_0 : (fun _ => 0 : Nat → Int32) = aN (fun _ => 0) := rfl
theorem aI_0 : (fun _ => 0 : Nat → Int32) = aI (fun _ => 0) := rfl
theorem aB_0 : (fun _ => 0 : Nat → Int32) = aB (fun _ => false) := rfl
section ZA
variable {Z : zF} {l : Launch} {R : Room} {D : va_G} {cl : List vw_C} {tys : List (ClassId × FieldType)} {NW : List (String × Nat × MethodName × String)} {cc : ByteArray} {nL : Nat} {own : String} {Ts : List Cond} {mc ms : Nat} {ret : Option FieldType} {nm : String} {E : Option Value → va_W → Prop} {k j pc : Nat} {lv : List (Option Value)} {st : List Value} {ws : va_W}
theorem z_ldN (hX : zX Z l R D cl tys NW cc nL own Ts mc ms ret nm E) {cA : ClassId} {n a : Nat} {g : Nat → Nat} (q0 t0 i : Nat) {x : Int32} (ha : ws[q0]? = some (a, .inl (cA, n, .inl (aN g)))) (ht : tys[t0]? = some (cA, .int)) (hx0 : x = nI i) (hi : i < n) (hn : n < 2147483648) (hd : decode cc pc = .ok (.iaload, 1)) (kk : Z k j (pc + 1) lv (.int (nI (g i)) :: st) ws) : Z k j pc lv (.int x :: .ref a :: st) ws := z_iald hX q0 t0 i ha ht hx0 hi hn hd kk
theorem z_stN (hX : zX Z l R D cl tys NW cc nL own Ts mc ms ret nm E) {cA : ClassId} {n a : Nat} {g : Nat → Nat} (q0 t0 i : Nat) (v : Nat) {x y : Int32} (ha : ws[q0]? = some (a, .inl (cA, n, .inl (aN g)))) (ht : tys[t0]? = some (cA, .int)) (hx0 : x = nI i) (hy0 : y = nI v) (hi : i < n) (hn : n < 2147483648) (hd : decode cc pc = .ok (.iastore, 1)) (kk : Z k j (pc + 1) lv st (ws.set q0 (a, .inl (cA, n, .inl (aN (va_up g i v)))))) : Z k j pc lv (.int y :: .int x :: .ref a :: st) ws := by
  subst hy0
  exact z_iast hX q0 t0 i ha ht hx0 hi hn hd (aN_up g i v) kk
theorem z_ldI (hX : zX Z l R D cl tys NW cc nL own Ts mc ms ret nm E) {cA : ClassId} {n a : Nat} {g : Nat → Int} (q0 t0 i : Nat) {x : Int32} (ha : ws[q0]? = some (a, .inl (cA, n, .inl (aI g)))) (ht : tys[t0]? = some (cA, .int)) (hx0 : x = nI i) (hi : i < n) (hn : n < 2147483648) (hd : decode cc pc = .ok (.iaload, 1)) (kk : Z k j (pc + 1) lv (.int (Int32.ofInt (g i)) :: st) ws) : Z k j pc lv (.int x :: .ref a :: st) ws := z_iald hX q0 t0 i ha ht hx0 hi hn hd kk
theorem z_stI (hX : zX Z l R D cl tys NW cc nL own Ts mc ms ret nm E) {cA : ClassId} {n a : Nat} {g : Nat → Int} (q0 t0 i : Nat) (v : Int) {x y : Int32} (ha : ws[q0]? = some (a, .inl (cA, n, .inl (aI g)))) (ht : tys[t0]? = some (cA, .int)) (hx0 : x = nI i) (hy0 : y = Int32.ofInt v) (hi : i < n) (hn : n < 2147483648) (hd : decode cc pc = .ok (.iastore, 1)) (kk : Z k j (pc + 1) lv st (ws.set q0 (a, .inl (cA, n, .inl (aI (va_up g i v)))))) : Z k j pc lv (.int y :: .int x :: .ref a :: st) ws := by
  subst hy0
  exact z_iast hX q0 t0 i ha ht hx0 hi hn hd (aI_up g i v) kk
theorem z_ldB (hX : zX Z l R D cl tys NW cc nL own Ts mc ms ret nm E) {cA : ClassId} {n a : Nat} {g : Nat → Bool} (q0 t0 i : Nat) {x : Int32} (ha : ws[q0]? = some (a, .inl (cA, n, .inl (aB g)))) (ht : tys[t0]? = some (cA, .boolean)) (hx0 : x = nI i) (hi : i < n) (hn : n < 2147483648) (hd : decode cc pc = .ok (.baload, 1)) (kk : Z k j (pc + 1) lv (.int (bN (g i)) :: st) ws) : Z k j pc lv (.int x :: .ref a :: st) ws := z_zald hX q0 t0 i ha ht hx0 hi hn hd kk
theorem z_stB (hX : zX Z l R D cl tys NW cc nL own Ts mc ms ret nm E) {cA : ClassId} {n a : Nat} {g : Nat → Bool} (q0 t0 i : Nat) (v : Bool) {x y : Int32} (ha : ws[q0]? = some (a, .inl (cA, n, .inl (aB g)))) (ht : tys[t0]? = some (cA, .boolean)) (hx0 : x = nI i) (hy0 : y = bN v) (hi : i < n) (hn : n < 2147483648) (hd : decode cc pc = .ok (.bastore, 1)) (kk : Z k j (pc + 1) lv st (ws.set q0 (a, .inl (cA, n, .inl (aB (va_up g i v)))))) : Z k j pc lv (.int y :: .int x :: .ref a :: st) ws := by
  subst hy0
  exact z_zast hX q0 t0 i ha ht hx0 hi hn hd (aB_up g i v) kk
theorem z_icmp_eqN (hX : zX Z l R D cl tys NW cc nL own Ts mc ms ret nm E) {a b : Nat} {off : Int} (tgt : Nat) (ha : a < 2147483648) (hb : b < 2147483648) (hd : decode cc pc = .ok (.if_icmp .eq off, 3)) (ht : (pc : Int) + off = (tgt : Int)) (kt : a = b → Z k j tgt lv st ws) (kf : ¬ a = b → Z k j (pc + 3) lv st ws) : Z k j pc lv (.int (nI b) :: .int (nI a) :: st) ws := z_icmp_eq hX tgt hd ht (fun h => kt ((nI_eq ha hb).mp h)) (fun h => kf (fun h2 => h ((nI_eq ha hb).mpr h2)))
theorem z_icmp_neN (hX : zX Z l R D cl tys NW cc nL own Ts mc ms ret nm E) {a b : Nat} {off : Int} (tgt : Nat) (ha : a < 2147483648) (hb : b < 2147483648) (hd : decode cc pc = .ok (.if_icmp .ne off, 3)) (ht : (pc : Int) + off = (tgt : Int)) (kt : ¬ a = b → Z k j tgt lv st ws) (kf : a = b → Z k j (pc + 3) lv st ws) : Z k j pc lv (.int (nI b) :: .int (nI a) :: st) ws := z_icmp_ne hX tgt hd ht (fun h => kt (fun h2 => h ((nI_eq ha hb).mpr h2))) (fun h => kf ((nI_eq ha hb).mp h))
theorem z_icmp_ltN (hX : zX Z l R D cl tys NW cc nL own Ts mc ms ret nm E) {a b : Nat} {off : Int} (tgt : Nat) (ha : a < 2147483648) (hb : b < 2147483648) (hd : decode cc pc = .ok (.if_icmp .lt off, 3)) (ht : (pc : Int) + off = (tgt : Int)) (kt : a < b → Z k j tgt lv st ws) (kf : b ≤ a → Z k j (pc + 3) lv st ws) : Z k j pc lv (.int (nI b) :: .int (nI a) :: st) ws := z_icmp_lt hX tgt hd ht (fun h => kt ((nI_ltI ha hb).mp h)) (fun h => kf (Nat.not_lt.mp (fun h2 => h ((nI_ltI ha hb).mpr h2))))
theorem z_icmp_geN (hX : zX Z l R D cl tys NW cc nL own Ts mc ms ret nm E) {a b : Nat} {off : Int} (tgt : Nat) (ha : a < 2147483648) (hb : b < 2147483648) (hd : decode cc pc = .ok (.if_icmp .ge off, 3)) (ht : (pc : Int) + off = (tgt : Int)) (kt : b ≤ a → Z k j tgt lv st ws) (kf : a < b → Z k j (pc + 3) lv st ws) : Z k j pc lv (.int (nI b) :: .int (nI a) :: st) ws := z_icmp_ge hX tgt hd ht (fun h => kt ((nI_leI hb ha).mp h)) (fun h => kf (Nat.not_le.mp (fun h2 => h ((nI_leI hb ha).mpr h2))))
theorem z_icmp_gtN (hX : zX Z l R D cl tys NW cc nL own Ts mc ms ret nm E) {a b : Nat} {off : Int} (tgt : Nat) (ha : a < 2147483648) (hb : b < 2147483648) (hd : decode cc pc = .ok (.if_icmp .gt off, 3)) (ht : (pc : Int) + off = (tgt : Int)) (kt : b < a → Z k j tgt lv st ws) (kf : a ≤ b → Z k j (pc + 3) lv st ws) : Z k j pc lv (.int (nI b) :: .int (nI a) :: st) ws := z_icmp_gt hX tgt hd ht (fun h => kt ((nI_ltI hb ha).mp h)) (fun h => kf (Nat.not_lt.mp (fun h2 => h ((nI_ltI hb ha).mpr h2))))
theorem z_icmp_leN (hX : zX Z l R D cl tys NW cc nL own Ts mc ms ret nm E) {a b : Nat} {off : Int} (tgt : Nat) (ha : a < 2147483648) (hb : b < 2147483648) (hd : decode cc pc = .ok (.if_icmp .le off, 3)) (ht : (pc : Int) + off = (tgt : Int)) (kt : a ≤ b → Z k j tgt lv st ws) (kf : b < a → Z k j (pc + 3) lv st ws) : Z k j pc lv (.int (nI b) :: .int (nI a) :: st) ws := z_icmp_le hX tgt hd ht (fun h => kt ((nI_leI ha hb).mp h)) (fun h => kf (Nat.not_le.mp (fun h2 => h ((nI_leI ha hb).mpr h2))))
theorem z_if_eqB (hX : zX Z l R D cl tys NW cc nL own Ts mc ms ret nm E) {b : Bool} {off : Int} (tgt : Nat) (hd : decode cc pc = .ok (.ifCond .eq off, 3)) (ht : (pc : Int) + off = (tgt : Int)) (kt : b = false → Z k j tgt lv st ws) (kf : b = true → Z k j (pc + 3) lv st ws) : Z k j pc lv (.int (bN b) :: st) ws := z_if_eq hX tgt hd ht (fun h => kt ((bN_0 b).mp h)) (fun h => kf (by cases hb : b with
    | true => rfl
    | false => exact absurd ((bN_0 b).mpr hb) h))
theorem z_if_neB (hX : zX Z l R D cl tys NW cc nL own Ts mc ms ret nm E) {b : Bool} {off : Int} (tgt : Nat) (hd : decode cc pc = .ok (.ifCond .ne off, 3)) (ht : (pc : Int) + off = (tgt : Int)) (kt : b = true → Z k j tgt lv st ws) (kf : b = false → Z k j (pc + 3) lv st ws) : Z k j pc lv (.int (bN b) :: st) ws := z_if_ne hX tgt hd ht (fun h => kt (by cases hb : b with
    | true => rfl
    | false => exact absurd ((bN_0 b).mpr hb) h)) (fun h => kf ((bN_0 b).mp h))
end ZA
end
section
/-! calls over the one list of words: those that only read, those that write in place; sums of numbers -/
def zset : va_W → List Nat → va_W → va_W
  | ws, i :: is, q :: qs => zset (ws.set i q) is qs
  | ws, _, _ => ws
theorem zset_len : ∀ (is : List Nat) (ws qs : va_W), (zset ws is qs).length = ws.length := by
  intro is
  induction is with
  | nil => intro ws qs; cases qs <;> rfl
  | cons i is ih =>
    intro ws qs
    cases qs with
    | nil => rfl
    | cons q qs =>
      show (zset (ws.set i q) is qs).length = _
      rw [ih, List.length_set]
theorem zset_out : ∀ (is : List Nat) (ws qs : va_W) (j : Nat), j ∉ is → (zset ws is qs)[j]? = ws[j]? := by
  intro is
  induction is with
  | nil => intro ws qs j _; cases qs <;> rfl
  | cons i is ih =>
    intro ws qs j hj
    cases qs with
    | nil => rfl
    | cons q qs =>
      show (zset (ws.set i q) is qs)[j]? = _
      rw [ih _ _ _ (fun h => hj (List.mem_cons_of_mem _ h)), List.getElem?_set_ne (fun h => hj (by rw [h]; exact List.mem_cons_self))]
theorem zset_in : ∀ (is : List Nat) (ws qs : va_W), is.length = qs.length → (∀ i ∈ is, i < ws.length) → is.Nodup → is.map (fun i => (zset ws is qs)[i]?) = qs.map some := by
  intro is
  induction is with
  | nil =>
    intro ws qs h _ _
    cases qs with
    | nil => rfl
    | cons q qs => cases h
  | cons i is ih =>
    intro ws qs h hlt hnd
    cases qs with
    | nil => cases h
    | cons q qs =>
      have hnd2 := List.nodup_cons.mp hnd
      show (zset (ws.set i q) is qs)[i]? :: is.map (fun x => (zset (ws.set i q) is qs)[x]?) = some q :: qs.map some
      rw [ih (ws.set i q) qs (by simpa using h) (fun x hx => by rw [List.length_set]; exact hlt x (List.mem_cons_of_mem _ hx)) hnd2.2, zset_out _ _ _ _ hnd2.1, List.getElem?_set_self (hlt i List.mem_cons_self)]
theorem zPut_set {ws wc wn : va_W} {isC : List Nat} (hC : isC.map (fun i => ws[i]?) = wc.map some) (hnd : isC.Nodup) (hl : wn.length = wc.length) : zPut ws isC wn (zset ws isC wn) isC ((List.range ws.length).filter (fun i => !isC.contains i)) ws.length := by
  have hlen : isC.length = wc.length := by
    have := congrArg List.length hC
    simpa using this
  have hlt : ∀ i ∈ isC, i < ws.length := by
    intro i hi
    obtain ⟨a, ha⟩ := List.getElem?_of_mem hi
    have hal : a < wc.length := by rw [← hlen]; exact (List.getElem?_eq_some_iff.mp ha).1
    obtain ⟨q, hq⟩ : ∃ q, wc[a]? = some q := ⟨_, List.getElem?_eq_getElem hal⟩
    obtain ⟨i2, g1, g2⟩ := zC_get hC hq
    rw [ha] at g1
    cases g1
    exact (List.getElem?_eq_some_iff.mp g2).1
  refine ⟨zset_in isC ws wn (by omega) hlt hnd, ?_, zset_len _ _ _, fun i hi => ?_, fun i hi hc => ?_⟩
  · refine List.map_congr_left (fun i hi => ?_)
    have h1 := (List.mem_filter.mp hi).2
    exact zset_out _ _ _ _ (fun hc => by rw [List.contains_iff_mem.mpr hc] at h1; cases h1)
  · by_cases hc : i ∈ isC
    · exact Or.inl hc
    · exact Or.inr (List.mem_filter.mpr ⟨List.mem_range.mpr hi, by
        cases h : isC.contains i with
        | true => exact absurd (List.contains_iff_mem.mp h) hc
        | false => rfl⟩)
  · have h1 := (List.mem_filter.mp hi).2
    rw [List.contains_iff_mem.mpr hc] at h1
    cases h1
theorem zPut_same {ws wc : va_W} {isC : List Nat} (hC : isC.map (fun i => ws[i]?) = wc.map some) : zPut ws isC wc ws isC ((List.range ws.length).filter (fun i => !isC.contains i)) ws.length := by
  refine ⟨hC, rfl, rfl, fun i hi => ?_, fun i hi hc => ?_⟩
  · by_cases hc : i ∈ isC
    · exact Or.inl hc
    · exact Or.inr (List.mem_filter.mpr ⟨List.mem_range.mpr hi, by
        cases h : isC.contains i with
        | true => exact absurd (List.contains_iff_mem.mp h) hc
        | false => rfl⟩)
  · have h1 := (List.mem_filter.mp hi).2
    rw [List.contains_iff_mem.mpr hc] at h1
    cases h1
theorem zu {c0 : Cond} {ws : List Cond} (h : ∀ w ∈ ws, w ∈ zWW) : ∀ w ∈ ws, w ∈ c0 :: zWW := fun w hw => List.mem_cons_of_mem _ (h w hw)
theorem zG {c0 c1 : Cond} (h : c1 ∈ zWW) : GoodIn (c0 :: zWW) (c1 :: zWW) := fun w hw => (List.mem_cons.mp hw).elim (fun e => by rw [e]; exact ⟨List.mem_cons_of_mem _ h, zw_good h⟩) (fun h2 => ⟨List.mem_cons_of_mem _ h2, zw_good h2⟩)
theorem zGV {c0 c1 : Cond} {own C : String} {ix : Nat} {y : MethodName} (m1 : Cond.methodLink own ix y ∈ zWW) (m2 : Cond.instanceMethod y ∈ zWW) (m3 : Cond.selects C y y ∈ zWW) (m4 : Cond.initialized C ∈ zWW) (m5 : c1 ∈ zWW) : GoodIn (c0 :: zWW) (wsV own ix C y (c1 :: zWW)) := by
  intro w hw
  rcases List.mem_append.mp hw with h | h
  · have hz : w ∈ zWW := by
      rcases List.mem_cons.mp h with rfl | h
      · exact m1
      · rcases List.mem_cons.mp h with rfl | h
        · exact m2
        · rcases List.mem_cons.mp h with rfl | h
          · exact m3
          · rcases List.mem_cons.mp h with rfl | h
            · exact m4
            · cases h
    exact ⟨List.mem_cons_of_mem _ hz, zw_good hz⟩
  · exact zG m5 w h
theorem zi_1 (a : Nat) : nI a + Int32.ofInt 1 = nI (a + 1) := nI_1 a
theorem zi_m1 (a : Nat) : nI (a + 1) + Int32.ofInt (-1) = nI a := pk_m1 a
theorem zi_of (a : Nat) : nI a = Int32.ofInt (a : Int) := Int32.ofInt_eq_ofNat.symm
theorem bN_f (b : Bool) : fits .boolean (.int (bN b)) = true := by cases b <;> decide
theorem bN_t : (1 : Int32) = bN true := rfl
theorem bN_ff : (0 : Int32) = bN false := rfl
section ZU
variable {Z : zF} {l : Launch} {R : Room} {D : va_G} {cl : List vw_C} {tys : List (ClassId × FieldType)} {NW : List (String × Nat × MethodName × String)} {cc : ByteArray} {nL : Nat} {own : String} {c0 : Cond} {mc ms : Nat} {ret : Option FieldType} {nm : String} {E : Option Value → va_W → Prop} {k j pc : Nat} {lv : List (Option Value)} {st st0 : List Value} {ws wc : va_W}
variable {y : MethodName} {rm : Room} {n ix : Nat} {bytes : ByteArray} {maxL : Nat} {r : Option FieldType} {As : List Value} {Ey : Option Value → va_W → Prop}
theorem zN_nd : ∀ {is : List Nat}, va_nd is = true → is.Nodup := by
  intro is
  induction is with
  | nil => intro _; exact List.nodup_nil
  | cons i is ih =>
    intro h
    have h : (decide (i ∉ is) && va_nd is) = true := h
    rw [Bool.and_eq_true] at h
    exact List.nodup_cons.mpr ⟨of_decide_eq_true h.1, ih h.2⟩
theorem z_Vr (hX : zX Z l R D cl tys NW cc nL own (c0 :: zWW) mc ms ret nm E) {b ci N : Nat} {fs : List Value} {T : u_T} {C : String} (hM : zM l y (Cond.code y bytes maxL r :: zWW) rm D cl tys NW 0 0 (.ref b :: As) wc Ey) (m1 : Cond.methodLink own ix y ∈ zWW) (m2 : Cond.instanceMethod y ∈ zWW) (m3 : Cond.selects C y y ∈ zWW) (m4 : Cond.initialized C ∈ zWW) (m5 : Cond.code y bytes maxL r ∈ zWW) (hrc : rm.cells = 0) (hrs : rm.slots = 0) (hd0 : y.cls = C ∧ y.cls ≠ "java/lang/invoke/MethodHandle" ∧ y.cls ≠ "java/lang/invoke/VarHandle" ∧ (parseMethodDescriptor y.desc).map (fun d => d.parameters.length) = some n) (hR : rm.frames + 1 ≤ R.frames ∧ 8 + (maxL + 11) + rm.locals ≤ R.locals) (q0 : Nat) (he : ws[q0]? = some (b, .inr (ci, fs))) (hc : cl[ci]? = some (C, T, N)) (hn : As.length = n) (hst : st0 = As.reverse ++ .ref b :: st) (hcat : (st.map fun v => v.category).sum ≤ 8) (hd : decode cc pc = .ok (.invokevirtual ix, 3)) (hf : k ≤ R.cells ∧ j ≤ R.slots) (isC : List Nat) (hC : isC.map (fun i => ws[i]?) = wc.map some) (hnd : va_nd isC = true) (kk : ∀ (v : Option Value) (wn : va_W), Ey v wn → wn = wc ∧ Z k j (pc + 3) lv (v.toList ++ st) ws) : Z k j pc lv st0 ws := by
  exact z_callV hX hM (zGV m1 m2 m3 m4 m5) rfl hrc hrs hd0 hR q0 he hc hn hst hcat hd hf isC hC hnd (fun v wn h => by
    obtain ⟨e1, e2⟩ := kk v wn h
    exact ⟨ws, isC, _, ws.length, by rw [e1]; exact zPut_same hC, e2⟩)
theorem z_Vm (hX : zX Z l R D cl tys NW cc nL own (c0 :: zWW) mc ms ret nm E) {b ci N : Nat} {fs : List Value} {T : u_T} {C : String} (hM : zM l y (Cond.code y bytes maxL r :: zWW) rm D cl tys NW 0 0 (.ref b :: As) wc Ey) (m1 : Cond.methodLink own ix y ∈ zWW) (m2 : Cond.instanceMethod y ∈ zWW) (m3 : Cond.selects C y y ∈ zWW) (m4 : Cond.initialized C ∈ zWW) (m5 : Cond.code y bytes maxL r ∈ zWW) (hrc : rm.cells = 0) (hrs : rm.slots = 0) (hd0 : y.cls = C ∧ y.cls ≠ "java/lang/invoke/MethodHandle" ∧ y.cls ≠ "java/lang/invoke/VarHandle" ∧ (parseMethodDescriptor y.desc).map (fun d => d.parameters.length) = some n) (hR : rm.frames + 1 ≤ R.frames ∧ 8 + (maxL + 11) + rm.locals ≤ R.locals) (q0 : Nat) (he : ws[q0]? = some (b, .inr (ci, fs))) (hc : cl[ci]? = some (C, T, N)) (hn : As.length = n) (hst : st0 = As.reverse ++ .ref b :: st) (hcat : (st.map fun v => v.category).sum ≤ 8) (hd : decode cc pc = .ok (.invokevirtual ix, 3)) (hf : k ≤ R.cells ∧ j ≤ R.slots) (isC : List Nat) (hC : isC.map (fun i => ws[i]?) = wc.map some) (hnd : va_nd isC = true) (kk : ∀ (v : Option Value) (wn : va_W), Ey v wn → wn.length = wc.length ∧ Z k j (pc + 3) lv (v.toList ++ st) (zset ws isC wn)) : Z k j pc lv st0 ws := by
  exact z_callV hX hM (zGV m1 m2 m3 m4 m5) rfl hrc hrs hd0 hR q0 he hc hn hst hcat hd hf isC hC hnd (fun v wn h => by
    obtain ⟨e1, e2⟩ := kk v wn h
    exact ⟨zset ws isC wn, isC, _, ws.length, zPut_set hC (zN_nd hnd) e1, e2⟩)
theorem z_Nr (hX : zX Z l R D cl tys NW cc nL own (c0 :: zWW) mc ms ret nm E) (hM : zM l y (Cond.code y bytes maxL r :: zWW) rm D cl tys NW 0 0 As wc Ey) (host : String) (m5 : Cond.code y bytes maxL r ∈ zWW) (hnw : (own, ix, y, host) ∈ NW) (m4 : Cond.initialized y.cls ∈ zWW) (m2 : Cond.static y ∈ zWW) (hrc : rm.cells = 0) (hrs : rm.slots = 0) (hd0 : y.cls ≠ "java/lang/invoke/MethodHandle" ∧ y.cls ≠ "java/lang/invoke/VarHandle" ∧ (parseMethodDescriptor y.desc).map (fun d => d.parameters.length) = some n) (hR : rm.frames + 1 ≤ R.frames ∧ 8 + (maxL + 11) + rm.locals ≤ R.locals) (hn : As.length = n) (hst : st0 = As.reverse ++ st) (hcat : (st.map fun v => v.category).sum ≤ 8) (hd : decode cc pc = .ok (.invokestatic ix, 3)) (hf : k ≤ R.cells ∧ j ≤ R.slots) (isC : List Nat) (hC : isC.map (fun i => ws[i]?) = wc.map some) (hnd : va_nd isC = true) (kk : ∀ (v : Option Value) (wn : va_W), Ey v wn → wn = wc ∧ Z k j (pc + 3) lv (v.toList ++ st) ws) : Z k j pc lv st0 ws := by
  exact z_callN hX host hM (zG m5) rfl hrc hrs hnw (List.mem_cons_of_mem _ m4) (List.mem_cons_of_mem _ m2) hd0 hR hn hst hcat hd hf isC hC hnd (fun v wn h => by
    obtain ⟨e1, e2⟩ := kk v wn h
    exact ⟨ws, isC, _, ws.length, by rw [e1]; exact zPut_same hC, e2⟩)
theorem z_Nm (hX : zX Z l R D cl tys NW cc nL own (c0 :: zWW) mc ms ret nm E) (hM : zM l y (Cond.code y bytes maxL r :: zWW) rm D cl tys NW 0 0 As wc Ey) (host : String) (m5 : Cond.code y bytes maxL r ∈ zWW) (hnw : (own, ix, y, host) ∈ NW) (m4 : Cond.initialized y.cls ∈ zWW) (m2 : Cond.static y ∈ zWW) (hrc : rm.cells = 0) (hrs : rm.slots = 0) (hd0 : y.cls ≠ "java/lang/invoke/MethodHandle" ∧ y.cls ≠ "java/lang/invoke/VarHandle" ∧ (parseMethodDescriptor y.desc).map (fun d => d.parameters.length) = some n) (hR : rm.frames + 1 ≤ R.frames ∧ 8 + (maxL + 11) + rm.locals ≤ R.locals) (hn : As.length = n) (hst : st0 = As.reverse ++ st) (hcat : (st.map fun v => v.category).sum ≤ 8) (hd : decode cc pc = .ok (.invokestatic ix, 3)) (hf : k ≤ R.cells ∧ j ≤ R.slots) (isC : List Nat) (hC : isC.map (fun i => ws[i]?) = wc.map some) (hnd : va_nd isC = true) (kk : ∀ (v : Option Value) (wn : va_W), Ey v wn → wn.length = wc.length ∧ Z k j (pc + 3) lv (v.toList ++ st) (zset ws isC wn)) : Z k j pc lv st0 ws := by
  exact z_callN hX host hM (zG m5) rfl hrc hrs hnw (List.mem_cons_of_mem _ m4) (List.mem_cons_of_mem _ m2) hd0 hR hn hst hcat hd hf isC hC hnd (fun v wn h => by
    obtain ⟨e1, e2⟩ := kk v wn h
    exact ⟨zset ws isC wn, isC, _, ws.length, zPut_set hC (zN_nd hnd) e1, e2⟩)
theorem z_iaddN (hX : zX Z l R D cl tys NW cc nL own (c0 :: zWW) mc ms ret nm E) {a b : Nat} (hd : decode cc pc = .ok (.iadd, 1)) (kk : Z k j (pc + 1) lv (.int (nI (a + b)) :: st) ws) : Z k j pc lv (.int (nI b) :: .int (nI a) :: st) ws := z_iadd hX hd (by rw [nI_add]; exact kk)
theorem z_isubN (hX : zX Z l R D cl tys NW cc nL own (c0 :: zWW) mc ms ret nm E) {a b : Nat} (h : b ≤ a) (hd : decode cc pc = .ok (.isub, 1)) (kk : Z k j (pc + 1) lv (.int (nI (a - b)) :: st) ws) : Z k j pc lv (.int (nI b) :: .int (nI a) :: st) ws := z_isub hX hd (by rw [pk_sub h]; exact kk)
theorem z_iaddI (hX : zX Z l R D cl tys NW cc nL own (c0 :: zWW) mc ms ret nm E) {x y : Int32} (a b : Int) (hx : x = Int32.ofInt a) (hy : y = Int32.ofInt b) (hd : decode cc pc = .ok (.iadd, 1)) (kk : Z k j (pc + 1) lv (.int (Int32.ofInt (a + b)) :: st) ws) : Z k j pc lv (.int y :: .int x :: st) ws := z_iadd hX hd (by rw [hx, hy, ← Int32.ofInt_add]; exact kk)
theorem z_isubI (hX : zX Z l R D cl tys NW cc nL own (c0 :: zWW) mc ms ret nm E) {x y : Int32} (a b : Int) (hx : x = Int32.ofInt a) (hy : y = Int32.ofInt b) (hd : decode cc pc = .ok (.isub, 1)) (kk : Z k j (pc + 1) lv (.int (Int32.ofInt (a - b)) :: st) ws) : Z k j pc lv (.int y :: .int x :: st) ws := z_isub hX hd (by rw [hx, hy, ← Int32.ofInt_sub]; exact kk)
end ZU
end
section
/-! pure side: loops from 0 up, counting, sums, rounds (draft of 2026-11-15) -/
def sp_it {α : Type} (f : Nat → α → α) : Nat → α → α
  | 0, a => a
  | k + 1, a => f k (sp_it f k a)
theorem sp_it_inv {α : Type} {f : Nat → α → α} {I : Nat → α → Prop} {a : α} (h0 : I 0 a) (k : Nat) (hs : ∀ i x, i < k → I i x → I (i + 1) (f i x)) : I k (sp_it f k a) := by
  induction k with
  | zero => exact h0
  | succ k ih => exact hs k _ (Nat.lt_succ_self k) (ih (fun i x hi hx => hs i x (Nat.lt_succ_of_lt hi) hx))
theorem sp_it_rel {α β : Type} {f : Nat → α → α} {g : Nat → β → β} {I : Nat → α → β → Prop} {a : α} {b : β} (h0 : I 0 a b) (k : Nat) (hs : ∀ i x y, i < k → I i x y → I (i + 1) (f i x) (g i y)) : I k (sp_it f k a) (sp_it g k b) := by
  induction k with
  | zero => exact h0
  | succ k ih => exact hs k _ _ (Nat.lt_succ_self k) (ih (fun i x y hi hx => hs i x y (Nat.lt_succ_of_lt hi) hx))
theorem sp_it_congr {α : Type} {f g : Nat → α → α} {a : α} (k : Nat) (h : ∀ i x, i < k → f i x = g i x) : sp_it f k a = sp_it g k a := by
  refine sp_it_rel (I := fun _ x y => x = y) rfl k ?_
  intro i x y hi hxy
  subst hxy
  exact h i x hi
/-- how many i below k have p -/
def sp_cnt (p : Nat → Bool) : Nat → Nat
  | 0 => 0
  | k + 1 => sp_cnt p k + (if p k = true then 1 else 0)
theorem sp_cnt_le (p : Nat → Bool) (k : Nat) : sp_cnt p k ≤ k := by
  induction k with
  | zero => exact Nat.le_refl 0
  | succ k ih =>
    show sp_cnt p k + _ ≤ k + 1
    split <;> omega
theorem sp_cnt_mono {p q : Nat → Bool} {k : Nat} (h : ∀ i, i < k → p i = true → q i = true) : sp_cnt p k ≤ sp_cnt q k := by
  induction k with
  | zero => exact Nat.le_refl 0
  | succ k ih =>
    have h1 := ih (fun i hi => h i (Nat.lt_succ_of_lt hi))
    have h2 := h k (Nat.lt_succ_self k)
    show sp_cnt p k + _ ≤ sp_cnt q k + _
    by_cases hp : p k = true
    · rw [if_pos hp, if_pos (h2 hp)]; omega
    · rw [if_neg hp]; split <;> omega
theorem sp_cnt_lt {p q : Nat → Bool} {k : Nat} (h : ∀ i, i < k → p i = true → q i = true) {j : Nat} (hj : j < k) (hq : q j = true) (hp : ¬ p j = true) : sp_cnt p k < sp_cnt q k := by
  induction k with
  | zero => omega
  | succ k ih =>
    show sp_cnt p k + _ < sp_cnt q k + _
    by_cases hjk : j = k
    · subst hjk
      have h1 := sp_cnt_mono (p := p) (q := q) (k := j) (fun i hi => h i (Nat.lt_succ_of_lt hi))
      rw [if_neg hp, if_pos hq]; omega
    · have h1 := ih (fun i hi => h i (Nat.lt_succ_of_lt hi)) (by omega)
      by_cases hpk : p k = true
      · rw [if_pos hpk, if_pos (h k (Nat.lt_succ_self k) hpk)]; omega
      · rw [if_neg hpk]; split <;> omega
theorem sp_cnt_all {p : Nat → Bool} {k : Nat} (h : k ≤ sp_cnt p k) : ∀ i, i < k → p i = true := by
  induction k with
  | zero => intro i hi; omega
  | succ k ih =>
    have h1 := sp_cnt_le p k
    have h2 : k + 1 ≤ sp_cnt p k + (if p k = true then 1 else 0) := h
    by_cases hp : p k = true
    · rw [if_pos hp] at h2
      intro i hi
      by_cases hik : i = k
      · subst hik; exact hp
      · exact ih (by omega) i (by omega)
    · rw [if_neg hp] at h2; omega
theorem sp_cnt_pos {p : Nat → Bool} {k j : Nat} (hj : j < k) (hp : p j = true) : 1 ≤ sp_cnt p k := by
  have h := sp_cnt_lt (p := fun _ => false) (q := p) (k := k) (fun i _ hf => by cases hf) hj hp (by decide)
  omega
theorem sp_cnt_congr {p q : Nat → Bool} {k : Nat} (h : ∀ i, i < k → p i = q i) : sp_cnt p k = sp_cnt q k := by
  apply Nat.le_antisymm
  · exact sp_cnt_mono (fun i hi hp => by rw [← h i hi]; exact hp)
  · exact sp_cnt_mono (fun i hi hp => by rw [h i hi]; exact hp)
/-- the sum of f below k -/
def sp_sum (f : Nat → Nat) : Nat → Nat
  | 0 => 0
  | k + 1 => sp_sum f k + f k
theorem sp_sum_congr {f g : Nat → Nat} {k : Nat} (h : ∀ i, i < k → f i = g i) : sp_sum f k = sp_sum g k := by
  induction k with
  | zero => rfl
  | succ k ih =>
    show sp_sum f k + f k = sp_sum g k + g k
    rw [ih (fun i hi => h i (Nat.lt_succ_of_lt hi)), h k (Nat.lt_succ_self k)]
theorem sp_sum_mono {f : Nat → Nat} {j k : Nat} (h : j ≤ k) : sp_sum f j ≤ sp_sum f k := by
  induction k with
  | zero => have : j = 0 := by omega
            subst this; exact Nat.le_refl _
  | succ k ih =>
    by_cases hj : j = k + 1
    · subst hj; exact Nat.le_refl _
    · have := ih (by omega)
      show sp_sum f j ≤ sp_sum f k + f k
      omega
theorem sp_sum_ge {f : Nat → Nat} {j k : Nat} (h : j < k) : sp_sum f j + f j ≤ sp_sum f k := sp_sum_mono (f := f) (j := j + 1) h
theorem sp_sum_zero {f : Nat → Nat} {k : Nat} (h : ∀ i, i < k → f i = 0) : sp_sum f k = 0 := by
  induction k with
  | zero => rfl
  | succ k ih =>
    show sp_sum f k + f k = 0
    rw [ih (fun i hi => h i (Nat.lt_succ_of_lt hi)), h k (Nat.lt_succ_self k)]
/-- rounds: a growing round over sets of blocks below n comes to rest -/
theorem sp_rounds {α : Type} {F : α → α} {st : α → Nat → Bool} {n : Nat} {I : α → Prop} (hI : ∀ a, I a → I (F a)) (hg : ∀ a b, I a → st a b = true → st (F a) b = true) (hn : ∀ a b, I a → st a b = true → b < n) (hfix : ∀ a, I a → (∀ b, st (F a) b = st a b) → F a = a) {a : α} (ha : I a) (k : Nat) : I (sp_it (fun _ => F) k a) ∧ (F (sp_it (fun _ => F) k a) = sp_it (fun _ => F) k a ∨ sp_cnt (st a) n + k ≤ sp_cnt (st (sp_it (fun _ => F) k a)) n) := by
  induction k with
  | zero => exact ⟨ha, Or.inr (Nat.le_refl _)⟩
  | succ k ih =>
    obtain ⟨i1, i2⟩ := ih
    refine ⟨hI _ i1, ?_⟩
    show F (F (sp_it (fun _ => F) k a)) = F (sp_it (fun _ => F) k a) ∨ sp_cnt (st a) n + (k + 1) ≤ sp_cnt (st (F (sp_it (fun _ => F) k a))) n
    generalize sp_it (fun _ => F) k a = x at i1 i2 ⊢
    rcases i2 with i2 | i2
    · left; rw [i2, i2]
    · by_cases hx : ∀ b, st (F x) b = st x b
      · left; rw [hfix x i1 hx, hfix x i1 hx]
      · right
        have ⟨b, hb⟩ : ∃ b, ¬ st (F x) b = st x b := Classical.byContradiction (fun hc => hx (fun b => Classical.byContradiction (fun hb => hc ⟨b, hb⟩)))
        have h1 : ¬ st x b = true := fun h => hb (by rw [h, hg x b i1 h])
        have h2 : st (F x) b = true := by
          cases h3 : st (F x) b with
          | true => rfl
          | false =>
            cases h4 : st x b with
            | true => exact absurd h4 h1
            | false => exact absurd (h3.trans h4.symm) hb
        have h5 := sp_cnt_lt (p := st x) (q := st (F x)) (k := n) (fun i _ h => hg x i i1 h) (hn _ b (hI _ i1) h2) h2 h1
        omega
/-- with one block at the start n - 1 rounds are enough: one more changes nothing -/
theorem sp_rest {α : Type} {F : α → α} {st : α → Nat → Bool} {n : Nat} {I : α → Prop} (hI : ∀ a, I a → I (F a)) (hg : ∀ a b, I a → st a b = true → st (F a) b = true) (hn : ∀ a b, I a → st a b = true → b < n) (hfix : ∀ a, I a → (∀ b, st (F a) b = st a b) → F a = a) {a : α} (ha : I a) (h1 : 1 ≤ sp_cnt (st a) n) : F (sp_it (fun _ => F) (n - 1) a) = sp_it (fun _ => F) (n - 1) a := by
  obtain ⟨i1, i2⟩ := sp_rounds hI hg hn hfix ha (n - 1)
  generalize sp_it (fun _ => F) (n - 1) a = x at i1 i2 ⊢
  rcases i2 with i2 | i2
  · exact i2
  · have h2 := sp_cnt_all (p := st x) (k := n) (by omega)
    refine hfix x i1 (fun b => ?_)
    by_cases hb : b < n
    · rw [h2 b hb, hg x b i1 (h2 b hb)]
    · have h3 : ¬ st x b = true := fun h => hb (hn x b i1 h)
      have h4 : ¬ st (F x) b = true := fun h => hb (hn _ b (hI _ i1) h)
      cases h5 : st (F x) b with
      | true => exact absurd h5 h4
      | false =>
        cases h6 : st x b with
        | true => exact absurd h6 h3
        | false => rfl
theorem sp_rest_n {α : Type} {F : α → α} {n : Nat} {a : α} (hn : 1 ≤ n) (h : F (sp_it (fun _ => F) (n - 1) a) = sp_it (fun _ => F) (n - 1) a) : sp_it (fun _ => F) n a = sp_it (fun _ => F) (n - 1) a := by
  obtain ⟨k, rfl⟩ : ∃ k, n = k + 1 := ⟨n - 1, by omega⟩
  exact h
end
section
/-! pure side: the graph, the search (draft of 2026-11-15) -/
theorem sp_up_s {α : Type} (f : Nat → α) (k : Nat) (v : α) : va_up f k v k = v := by simp [va_up]
theorem sp_up_n {α : Type} (f : Nat → α) {k j : Nat} (v : α) (h : j ≠ k) : va_up f k v j = f j := by simp [va_up, h]
theorem sp_cnt_up {p q : Nat → Bool} {k j : Nat} (hj : j < k) (hp : p j = false) (hq : q j = true) (h : ∀ i, i < k → i ≠ j → q i = p i) : sp_cnt q k = sp_cnt p k + 1 := by
  induction k with
  | zero => omega
  | succ k ih =>
    show sp_cnt q k + _ = sp_cnt p k + _ + 1
    by_cases hjk : j = k
    · subst hjk
      have h1 : sp_cnt q j = sp_cnt p j := sp_cnt_congr (fun i hi => h i (by omega) (by omega))
      rw [hp, hq, h1]; simp
    · have h1 := ih (by omega) (fun i hi => h i (by omega))
      have h2 := h k (by omega) (by omega)
      rw [h1, h2]; omega
def sg_ok (n m : Nat) (fr to : Nat → Nat) : Prop := 2 ≤ n ∧ n ≤ 12 ∧ m ≤ 24 ∧ ∀ e, e < m → fr e < n ∧ to e < n ∧ fr e ≠ 1 ∧ to e ≠ 0
/-- the first edge from b among e, e + 1, .., e + k - 1; e + k if there is none -/
def sg_nx (fr : Nat → Nat) (b : Nat) : Nat → Nat → Nat
  | 0, e => e
  | k + 1, e => if fr e = b then e else sg_nx fr b k (e + 1)
theorem sg_nx_spec (fr : Nat → Nat) (b : Nat) : ∀ k e, e ≤ sg_nx fr b k e ∧ sg_nx fr b k e ≤ e + k ∧ (∀ j, e ≤ j → j < sg_nx fr b k e → fr j ≠ b) ∧ (sg_nx fr b k e < e + k → fr (sg_nx fr b k e) = b)
  | 0, e => ⟨Nat.le_refl _, Nat.le_refl _, fun j h1 h2 => by simp [sg_nx] at h2; omega, fun h => by simp [sg_nx] at h⟩
  | k + 1, e => by
    by_cases he : fr e = b
    · have h1 : sg_nx fr b (k + 1) e = e := by simp [sg_nx, he]
      rw [h1]
      exact ⟨Nat.le_refl _, by omega, fun j h2 h3 => by omega, fun _ => he⟩
    · have h1 : sg_nx fr b (k + 1) e = sg_nx fr b k (e + 1) := by simp [sg_nx, he]
      obtain ⟨a1, a2, a3, a4⟩ := sg_nx_spec fr b k (e + 1)
      rw [h1]
      refine ⟨by omega, by omega, fun j h2 h3 => ?_, fun h2 => a4 (by omega)⟩
      by_cases hj : j = e
      · subst hj; exact he
      · exact a3 j (by omega) h3
/-- edge e was looked at -/
def ss_L (fr met look : Nat → Nat) (e : Nat) : Prop := met (fr e) = 2 ∨ (met (fr e) = 1 ∧ e < look (fr e))
/-- what holds all along the search: met is 0 (not met), 1 (not come back from) or 2; st the stack of height h; fin the k blocks come back from -/
def ss_I (n m : Nat) (fr to met look st : Nat → Nat) (h : Nat) (bk : Nat → Bool) (fin : Nat → Nat) (k : Nat) : Prop :=
  (∀ i, i < h → st i < n ∧ met (st i) = 1) ∧
  (∀ i j, i < h → j < h → st i = st j → i = j) ∧
  (∀ b, b < n → met b = 1 → ∃ i, i < h ∧ st i = b) ∧
  (∀ i, i < k → fin i < n ∧ met (fin i) = 2) ∧
  (∀ i j, i < k → j < k → fin i = fin j → i = j) ∧
  (∀ b, b < n → met b = 2 → ∃ i, i < k ∧ fin i = b) ∧
  (∀ b, b < n → met b = 1 → look b ≤ m) ∧
  (∀ b, b < n → met b ≤ 2) ∧
  (∀ e, e < m → ss_L fr met look e → met (to e) ≠ 0) ∧
  (∀ e, e < m → ss_L fr met look e → bk e = false → (met (to e) = 2 ∧ ∀ j, j < k → fin j = fr e → ∃ i, i < j ∧ fin i = to e) ∨ ∃ i j, i < j ∧ j < h ∧ st i = fr e ∧ st j = to e) ∧
  (∀ b, b < n → met b ≠ 0 → ∀ S : Nat → Bool, (∀ e, e < m → ss_L fr met look e → bk e = false → S (fr e) = S (to e)) → S b = S 0) ∧
  h = sp_cnt (fun b => decide (met b = 1)) n ∧
  k = sp_cnt (fun b => decide (met b = 2)) n
/-- one step: the state is (met, look, st, h, bk, fin, k) -/
abbrev ss_T : Type := (Nat → Nat) × (Nat → Nat) × (Nat → Nat) × Nat × (Nat → Bool) × (Nat → Nat) × Nat
def ss_step (fr to : Nat → Nat) (m : Nat) : ss_T → ss_T := fun s => match s with
  | (met, look, st, h, bk, fin, k) =>
    if h = 0 then (met, look, st, h, bk, fin, k)
    else if m ≤ sg_nx fr (st (h - 1)) (m - look (st (h - 1))) (look (st (h - 1))) then (va_up met (st (h - 1)) 2, look, st, h - 1, bk, va_up fin k (st (h - 1)), k + 1)
    else if met (to (sg_nx fr (st (h - 1)) (m - look (st (h - 1))) (look (st (h - 1))))) = 0 then
      (va_up met (to (sg_nx fr (st (h - 1)) (m - look (st (h - 1))) (look (st (h - 1))))) 1,
       va_up (va_up look (st (h - 1)) (sg_nx fr (st (h - 1)) (m - look (st (h - 1))) (look (st (h - 1))) + 1)) (to (sg_nx fr (st (h - 1)) (m - look (st (h - 1))) (look (st (h - 1))))) 0,
       va_up st h (to (sg_nx fr (st (h - 1)) (m - look (st (h - 1))) (look (st (h - 1))))), h + 1,
       va_up bk (sg_nx fr (st (h - 1)) (m - look (st (h - 1))) (look (st (h - 1)))) false, fin, k)
    else (met, va_up look (st (h - 1)) (sg_nx fr (st (h - 1)) (m - look (st (h - 1))) (look (st (h - 1))) + 1), st, h,
       va_up bk (sg_nx fr (st (h - 1)) (m - look (st (h - 1))) (look (st (h - 1)))) (decide (met (to (sg_nx fr (st (h - 1)) (m - look (st (h - 1))) (look (st (h - 1))))) = 1)), fin, k)
/-- come back from b -/
theorem ss_pop {n m : Nat} {fr to met look st fin : Nat → Nat} {h k b : Nat} {bk : Nat → Bool} (ht : ∀ e, e < m → fr e < n ∧ to e < n) (I : ss_I n m fr to met look st (h + 1) bk fin k) (hb : st h = b) (hall : ∀ e, e < m → fr e = b → e < look b) : ss_I n m fr to (va_up met b 2) look st h bk (va_up fin k b) (k + 1) := by
  obtain ⟨iA, iB, iC, iD, iE, iF, iG, iH, iJ, iK, iM, iN, iO⟩ := I
  obtain ⟨hbn, hb1⟩ := iA h (by omega)
  rw [hb] at hbn hb1
  have hL : ∀ e, e < m → (ss_L fr (va_up met b 2) look e ↔ ss_L fr met look e) := by
    intro e he
    by_cases hf : fr e = b
    · constructor
      · intro _; right; rw [hf]; exact ⟨hb1, hall e he hf⟩
      · intro _; left; rw [hf, sp_up_s]
    · simp only [ss_L, sp_up_n met 2 hf]
  refine ⟨?_, ?_, ?_, ?_, ?_, ?_, ?_, ?_, ?_, ?_, ?_, ?_, ?_⟩
  · intro i hi
    have h1 := iA i (by omega)
    have h2 : st i ≠ b := fun hc => by have := iB i h (by omega) (by omega) (by rw [hc, hb]); omega
    rw [sp_up_n met 2 h2]; exact h1
  · intro i j hi hj; exact iB i j (by omega) (by omega)
  · intro x hx h1
    have h2 : x ≠ b := fun hc => by rw [hc, sp_up_s] at h1; omega
    rw [sp_up_n met 2 h2] at h1
    obtain ⟨i, hi, hs⟩ := iC x hx h1
    refine ⟨i, ?_, hs⟩
    by_cases hih : i = h
    · subst hih; exact absurd (hs.symm.trans hb) h2
    · omega
  · intro i hi
    by_cases hik : i = k
    · subst hik; rw [sp_up_s, sp_up_s]; exact ⟨hbn, rfl⟩
    · rw [sp_up_n fin b hik]
      have h1 := iD i (by omega)
      refine ⟨h1.1, ?_⟩
      by_cases hx : fin i = b
      · rw [hx, sp_up_s]
      · rw [sp_up_n met 2 hx]; exact h1.2
  · intro i j hi hj hij
    have key : ∀ x, x < k → fin x ≠ b := fun x hx hc => by have := (iD x hx).2; rw [hc] at this; omega
    by_cases hik : i = k
    · by_cases hjk : j = k
      · omega
      · rw [hik, sp_up_s, sp_up_n fin b hjk] at hij; exact absurd hij.symm (key j (by omega))
    · by_cases hjk : j = k
      · rw [hjk, sp_up_s, sp_up_n fin b hik] at hij; exact absurd hij (key i (by omega))
      · rw [sp_up_n fin b hik, sp_up_n fin b hjk] at hij; exact iE i j (by omega) (by omega) hij
  · intro x hx h2
    by_cases hxb : x = b
    · exact ⟨k, by omega, by rw [sp_up_s, hxb]⟩
    · rw [sp_up_n met 2 hxb] at h2
      obtain ⟨i, hi, hs⟩ := iF x hx h2
      exact ⟨i, by omega, by rw [sp_up_n fin b (by omega)]; exact hs⟩
  · intro x hx h1
    have h2 : x ≠ b := fun hc => by rw [hc, sp_up_s] at h1; omega
    rw [sp_up_n met 2 h2] at h1
    exact iG x hx h1
  · intro x hx
    by_cases hxb : x = b
    · rw [hxb, sp_up_s]; exact Nat.le_refl 2
    · rw [sp_up_n met 2 hxb]; exact iH x hx
  · intro e he hl
    have h1 := iJ e he ((hL e he).mp hl)
    by_cases hxb : to e = b
    · rw [hxb, sp_up_s]; decide
    · rw [sp_up_n met 2 hxb]; exact h1
  · intro e he hl hbk
    rcases iK e he ((hL e he).mp hl) hbk with ⟨h1, h2⟩ | ⟨i, j, h1, h2, h3, h4⟩
    · left
      refine ⟨?_, ?_⟩
      · by_cases hxb : to e = b
        · rw [hxb, sp_up_s]
        · rw [sp_up_n met 2 hxb]; exact h1
      · intro j hj hfj
        by_cases hjk : j = k
        · rw [hjk]
          obtain ⟨i, hi, hs⟩ := iF (to e) (ht e he).2 h1
          exact ⟨i, hi, by rw [sp_up_n fin b (by omega)]; exact hs⟩
        · rw [sp_up_n fin b hjk] at hfj
          obtain ⟨i, hi, hs⟩ := h2 j (by omega) hfj
          exact ⟨i, hi, by rw [sp_up_n fin b (by omega)]; exact hs⟩
    · by_cases hjh : j = h
      · left
        have hte : to e = b := by rw [← h4, hjh]; exact hb
        refine ⟨by rw [hte, sp_up_s], ?_⟩
        intro x hx hfx
        have hm1 := (iA i (by omega)).2
        rw [h3] at hm1
        by_cases hxk : x = k
        · rw [hxk, sp_up_s] at hfx
          have := iB i h (by omega) (by omega) (by rw [h3, ← hfx, hb])
          omega
        · rw [sp_up_n fin b hxk] at hfx
          have := (iD x (by omega)).2
          rw [hfx] at this
          omega
      · right; exact ⟨i, j, h1, by omega, h3, h4⟩
  · intro x hx h1 S hS
    refine iM x hx ?_ S (fun e he hl hbk => hS e he ((hL e he).mpr hl) hbk)
    by_cases hxb : x = b
    · rw [hxb]; omega
    · rw [sp_up_n met 2 hxb] at h1; exact h1
  · have := sp_cnt_up (p := fun x => decide (va_up met b 2 x = 1)) (q := fun x => decide (met x = 1)) (k := n) (j := b) hbn (by simp [va_up]) (by simp [hb1]) (fun i _ hi => by simp [va_up, hi])
    omega
  · have := sp_cnt_up (p := fun x => decide (met x = 2)) (q := fun x => decide (va_up met b 2 x = 2)) (k := n) (j := b) hbn (by simp [hb1]) (by simp [va_up]) (fun i _ hi => by simp [va_up, hi])
    omega
/-- an edge e from the block b on top is looked at; it leads to a block met before -/
theorem ss_see {n m : Nat} {fr to met look st fin : Nat → Nat} {h k b e0 : Nat} {bk : Nat → Bool} (I : ss_I n m fr to met look st (h + 1) bk fin k) (hb : st h = b) (he0 : e0 < m) (hf0 : fr e0 = b) (hlo : look b ≤ e0) (hno : ∀ e, look b ≤ e → e < e0 → fr e ≠ b) (hm : met (to e0) ≠ 0) (ht : ∀ e, e < m → fr e < n ∧ to e < n) : ss_I n m fr to met (va_up look b (e0 + 1)) st (h + 1) (va_up bk e0 (decide (met (to e0) = 1))) fin k := by
  obtain ⟨iA, iB, iC, iD, iE, iF, iG, iH, iJ, iK, iM, iN, iO⟩ := I
  obtain ⟨hbn, hb1⟩ := iA h (by omega)
  rw [hb] at hbn hb1
  have hL : ∀ e, e < m → (ss_L fr met (va_up look b (e0 + 1)) e ↔ ss_L fr met look e ∨ e = e0) := by
    intro e he
    by_cases hf : fr e = b
    · simp only [ss_L, hf, sp_up_s, hb1]
      constructor
      · rintro (h1 | ⟨-, h1⟩)
        · omega
        · by_cases h2 : e < look b
          · left; right; exact ⟨trivial, h2⟩
          · by_cases h3 : e = e0
            · right; exact h3
            · exact absurd hf (hno e (by omega) (by omega))
      · rintro ((h1 | ⟨-, h1⟩) | h1)
        · omega
        · right; exact ⟨trivial, by omega⟩
        · right; exact ⟨trivial, by omega⟩
    · simp only [ss_L, sp_up_n look (e0 + 1) hf]
      constructor
      · intro h1; left; exact h1
      · rintro (h1 | h1)
        · exact h1
        · subst h1; exact absurd hf0 hf
  have hn0 : ¬ ss_L fr met look e0 := by
    simp only [ss_L, hf0, hb1]; omega
  refine ⟨iA, iB, iC, iD, iE, iF, ?_, iH, ?_, ?_, ?_, iN, iO⟩
  · intro x hx h1
    by_cases hxb : x = b
    · rw [hxb, sp_up_s]; omega
    · rw [sp_up_n look (e0 + 1) hxb]; exact iG x hx h1
  · intro e he hl
    rcases (hL e he).mp hl with h1 | h1
    · exact iJ e he h1
    · rw [h1]; exact hm
  · intro e he hl hbk
    rcases (hL e he).mp hl with h1 | h1
    · have hne : e ≠ e0 := fun hc => hn0 (by rw [← hc]; exact h1)
      rw [sp_up_n bk _ hne] at hbk
      exact iK e he h1 hbk
    · subst h1
      rw [sp_up_s] at hbk
      have h2 : met (to e) ≠ 1 := of_decide_eq_false hbk
      have h3 := iH (to e) (ht e he).2
      left
      refine ⟨by omega, ?_⟩
      intro j hj hfj
      have h4 := (iD j hj).2
      rw [hfj, hf0] at h4
      omega
  · intro x hx h1 S hS
    refine iM x hx h1 S (fun e he hl hbk => ?_)
    have hne : e ≠ e0 := fun hc => hn0 (by rw [← hc]; exact hl)
    exact hS e he ((hL e he).mpr (Or.inl hl)) (by rw [sp_up_n bk _ hne]; exact hbk)
/-- the same; it leads to a block not met so far, which is entered -/
theorem ss_push {n m : Nat} {fr to met look st fin : Nat → Nat} {h k b e0 : Nat} {bk : Nat → Bool} (I : ss_I n m fr to met look st (h + 1) bk fin k) (hb : st h = b) (he0 : e0 < m) (hf0 : fr e0 = b) (hlo : look b ≤ e0) (hno : ∀ e, look b ≤ e → e < e0 → fr e ≠ b) (hm : met (to e0) = 0) (ht : ∀ e, e < m → fr e < n ∧ to e < n) : ss_I n m fr to (va_up met (to e0) 1) (va_up (va_up look b (e0 + 1)) (to e0) 0) (va_up st (h + 1) (to e0)) (h + 2) (va_up bk e0 false) fin k := by
  obtain ⟨iA, iB, iC, iD, iE, iF, iG, iH, iJ, iK, iM, iN, iO⟩ := I
  obtain ⟨hbn, hb1⟩ := iA h (by omega)
  rw [hb] at hbn hb1
  have htn : to e0 < n := (ht e0 he0).2
  generalize hte : to e0 = t at hm htn ⊢
  have htb : t ≠ b := fun hc => by rw [hc] at hm; omega
  have hL : ∀ e, e < m → (ss_L fr (va_up met t 1) (va_up (va_up look b (e0 + 1)) t 0) e ↔ ss_L fr met look e ∨ e = e0) := by
    intro e he
    by_cases hft : fr e = t
    · simp only [ss_L, hft, sp_up_s, hm]
      constructor
      · rintro (h1 | ⟨-, h1⟩) <;> omega
      · rintro ((h1 | ⟨h1, -⟩) | h1)
        · omega
        · omega
        · subst h1; exact absurd (hft.symm.trans hf0) htb
    · simp only [ss_L, sp_up_n met 1 hft, sp_up_n (va_up look b (e0 + 1)) 0 hft]
      by_cases hf : fr e = b
      · simp only [hf, sp_up_s, hb1]
        constructor
        · rintro (h1 | ⟨-, h1⟩)
          · omega
          · by_cases h2 : e < look b
            · left; right; exact ⟨trivial, h2⟩
            · by_cases h3 : e = e0
              · right; exact h3
              · exact absurd hf (hno e (by omega) (by omega))
        · rintro ((h1 | ⟨-, h1⟩) | h1)
          · omega
          · right; exact ⟨trivial, by omega⟩
          · right; exact ⟨trivial, by omega⟩
      · simp only [sp_up_n look (e0 + 1) hf]
        constructor
        · intro h1; left; exact h1
        · rintro (h1 | h1)
          · exact h1
          · subst h1; exact absurd hf0 hf
  have hn0 : ¬ ss_L fr met look e0 := by
    simp only [ss_L, hf0, hb1]; omega
  have hmet : ∀ x, met x ≠ 0 → va_up met t 1 x = met x := fun x hx => sp_up_n met 1 (fun hc => hx (by rw [hc]; exact hm))
  refine ⟨?_, ?_, ?_, ?_, iE, ?_, ?_, ?_, ?_, ?_, ?_, ?_, ?_⟩
  · intro i hi
    by_cases hih : i = h + 1
    · rw [hih, sp_up_s, sp_up_s]; exact ⟨htn, rfl⟩
    · rw [sp_up_n st t hih]
      have h1 := iA i (by omega)
      rw [hmet _ (by omega)]; exact h1
  · intro i j hi hj hij
    have key : ∀ x, x < h + 1 → st x ≠ t := fun x hx hc => by have := (iA x hx).2; rw [hc] at this; omega
    by_cases hih : i = h + 1
    · by_cases hjh : j = h + 1
      · omega
      · rw [hih, sp_up_s, sp_up_n st t hjh] at hij; exact absurd hij.symm (key j (by omega))
    · by_cases hjh : j = h + 1
      · rw [hjh, sp_up_s, sp_up_n st t hih] at hij; exact absurd hij (key i (by omega))
      · rw [sp_up_n st t hih, sp_up_n st t hjh] at hij; exact iB i j (by omega) (by omega) hij
  · intro x hx h1
    by_cases hxt : x = t
    · exact ⟨h + 1, by omega, by rw [sp_up_s, hxt]⟩
    · rw [sp_up_n met 1 hxt] at h1
      obtain ⟨i, hi, hs⟩ := iC x hx h1
      exact ⟨i, by omega, by rw [sp_up_n st t (by omega)]; exact hs⟩
  · intro i hi
    have h1 := iD i hi
    rw [hmet _ (by omega)]; exact h1
  · intro x hx h2
    have hxt : x ≠ t := fun hc => by rw [hc, sp_up_s] at h2; omega
    rw [sp_up_n met 1 hxt] at h2
    exact iF x hx h2
  · intro x hx h1
    by_cases hxt : x = t
    · rw [hxt, sp_up_s]; exact Nat.zero_le m
    · rw [sp_up_n met 1 hxt] at h1
      rw [sp_up_n _ 0 hxt]
      by_cases hxb : x = b
      · rw [hxb, sp_up_s]; omega
      · rw [sp_up_n look (e0 + 1) hxb]; exact iG x hx h1
  · intro x hx
    by_cases hxt : x = t
    · rw [hxt, sp_up_s]; decide
    · rw [sp_up_n met 1 hxt]; exact iH x hx
  · intro e he hl
    rcases (hL e he).mp hl with h1 | h1
    · have h2 := iJ e he h1
      rw [hmet _ h2]; exact h2
    · rw [h1, hte, sp_up_s]; decide
  · intro e he hl hbk
    rcases (hL e he).mp hl with h1 | h1
    · have hne : e ≠ e0 := fun hc => hn0 (by rw [← hc]; exact h1)
      rw [sp_up_n bk _ hne] at hbk
      rcases iK e he h1 hbk with ⟨h2, h3⟩ | ⟨i, j, h2, h3, h4, h5⟩
      · left; exact ⟨by rw [hmet _ (by omega)]; exact h2, h3⟩
      · right
        exact ⟨i, j, h2, by omega, by rw [sp_up_n st t (by omega)]; exact h4, by rw [sp_up_n st t (by omega)]; exact h5⟩
    · subst h1
      right
      exact ⟨h, h + 1, by omega, by omega, by rw [sp_up_n st t (by omega), hb, hf0], by rw [sp_up_s, hte]⟩
  · intro x hx h1 S hS
    have hold : ∀ y, y < n → met y ≠ 0 → S y = S 0 := fun y hy h2 => iM y hy h2 S (fun e he hl hbk => by
      have hne : e ≠ e0 := fun hc => hn0 (by rw [← hc]; exact hl)
      exact hS e he ((hL e he).mpr (Or.inl hl)) (by rw [sp_up_n bk _ hne]; exact hbk))
    by_cases hxt : x = t
    · have h3 := hS e0 he0 ((hL e0 he0).mpr (Or.inr rfl)) (by rw [sp_up_s])
      rw [hf0, hte] at h3
      rw [hxt, ← h3]
      exact hold b hbn (by omega)
    · rw [sp_up_n met 1 hxt] at h1
      exact hold x hx h1
  · have := sp_cnt_up (p := fun x => decide (met x = 1)) (q := fun x => decide (va_up met t 1 x = 1)) (k := n) (j := t) htn (by simp [hm]) (by simp [va_up]) (fun i _ hi => by simp [va_up, hi])
    omega
  · have := sp_cnt_congr (p := fun x => decide (va_up met t 1 x = 2)) (q := fun x => decide (met x = 2)) (k := n) (fun i _ => by
      by_cases hi : i = t
      · simp [va_up, hi, hm]
      · simp [va_up, hi])
    omega
end
section
/-! pure side: growing steps, joined blocks, trees, cuts (draft of 2026-11-15) -/
def sp_le (S T : Nat → Bool) : Prop := ∀ b, S b = true → T b = true
theorem sp_le_refl (S : Nat → Bool) : sp_le S S := fun _ h => h
theorem sp_le_trans {S T U : Nat → Bool} (h1 : sp_le S T) (h2 : sp_le T U) : sp_le S U := fun b h => h2 b (h1 b h)
theorem sp_le_eq {S T : Nat → Bool} (h1 : sp_le S T) (h2 : sp_le T S) : S = T := by
  funext b
  cases hs : S b with
  | true => exact (h1 b hs).symm
  | false =>
    cases ht : T b with
    | true => rw [h2 b ht] at hs; exact hs.symm
    | false => rfl
theorem sp_it_grow {f : Nat → (Nat → Bool) → (Nat → Bool)} (hf : ∀ i S, sp_le S (f i S)) (S : Nat → Bool) (k : Nat) : sp_le S (sp_it f k S) := by
  induction k with
  | zero => exact sp_le_refl S
  | succ k ih => exact sp_le_trans ih (hf k _)
theorem sp_it_grow2 {f : Nat → (Nat → Bool) → (Nat → Bool)} (hf : ∀ i S, sp_le S (f i S)) (S : Nat → Bool) {i k : Nat} (h : i ≤ k) : sp_le (sp_it f i S) (sp_it f k S) := by
  induction k with
  | zero => have : i = 0 := by omega
            subst this; exact sp_le_refl _
  | succ k ih =>
    by_cases hi : i = k + 1
    · subst hi; exact sp_le_refl _
    · exact sp_le_trans (ih (by omega)) (hf k _)
/-- growing steps that change nothing all together change nothing one by one -/
theorem sp_it_fix {f : Nat → (Nat → Bool) → (Nat → Bool)} (hf : ∀ i S, sp_le S (f i S)) {S : Nat → Bool} {k : Nat} (h : sp_it f k S = S) : ∀ i, i < k → f i S = S := by
  have hall : ∀ i, i ≤ k → sp_it f i S = S := fun i hi => sp_le_eq (by have := sp_it_grow2 hf S hi; rw [h] at this; exact this) (sp_it_grow hf S i)
  intro i hi
  have h1 := hall (i + 1) hi
  have h2 := hall i (by omega)
  have h3 : sp_it f (i + 1) S = f i (sp_it f i S) := rfl
  rw [h2] at h3
  rw [← h3]; exact h1
theorem sp_up_le {S : Nat → Bool} {k : Nat} {v : Bool} (h : S k = true → v = true) : sp_le S (va_up S k v) := by
  intro b hb
  by_cases hk : b = k
  · subst hk; rw [sp_up_s]; exact h hb
  · rw [sp_up_n S v hk]; exact hb
/-- x and y are joined by the first k pairs, 0 and 1 being joined always -/
def sj_C (A B : Nat → Nat) (k x y : Nat) : Prop := ∀ S : Nat → Bool, S 0 = S 1 → (∀ i, i < k → S (A i) = S (B i)) → S x = S y
theorem sj_C_refl {A B : Nat → Nat} {k x : Nat} : sj_C A B k x x := fun _ _ _ => rfl
theorem sj_C_symm {A B : Nat → Nat} {k x y : Nat} (h : sj_C A B k x y) : sj_C A B k y x := fun S h0 hS => (h S h0 hS).symm
theorem sj_C_trans {A B : Nat → Nat} {k x y z : Nat} (h : sj_C A B k x y) (h2 : sj_C A B k y z) : sj_C A B k x z := fun S h0 hS => (h S h0 hS).trans (h2 S h0 hS)
theorem sj_C_pair {A B : Nat → Nat} {k i : Nat} (h : i < k) : sj_C A B k (A i) (B i) := fun _ _ hS => hS i h
theorem sj_C_gate {A B : Nat → Nat} {k : Nat} : sj_C A B k 0 1 := fun _ h0 _ => h0
theorem sj_C_more {A B : Nat → Nat} {j k x y : Nat} (h : j ≤ k) (hc : sj_C A B j x y) : sj_C A B k x y := fun S h0 hS => hc S h0 (fun i hi => hS i (by omega))
theorem sj_C_congr {A B A' B' : Nat → Nat} {k x y : Nat} (hA : ∀ i, i < k → A' i = A i) (hB : ∀ i, i < k → B' i = B i) (hc : sj_C A B k x y) : sj_C A' B' k x y := fun S h0 hS => hc S h0 (fun i hi => by rw [← hA i hi, ← hB i hi]; exact hS i hi)
/-- the reference's round: pairs one by one, then 0 and 1 -/
def sj_p (A B : Nat → Nat) (i : Nat) (S : Nat → Bool) : Nat → Bool := va_up (va_up S (A i) (S (A i) || S (B i))) (B i) (S (A i) || S (B i))
def sj_g (S : Nat → Bool) : Nat → Bool := va_up (va_up S 0 (S 0 || S 1)) 1 (S 0 || S 1)
def sj_r (A B : Nat → Nat) (k : Nat) (S : Nat → Bool) : Nat → Bool := sj_g (sp_it (sj_p A B) k S)
theorem sj_p_grow (A B : Nat → Nat) (i : Nat) (S : Nat → Bool) : sp_le S (sj_p A B i S) := by
  intro b hb
  simp only [sj_p, va_up]
  split
  · next h => subst h; simp [hb]
  · split
    · next h => subst h; simp [hb]
    · exact hb
theorem sj_g_grow (S : Nat → Bool) : sp_le S (sj_g S) := by
  intro b hb
  simp only [sj_g, va_up]
  split
  · next h => subst h; simp [hb]
  · split
    · next h => subst h; simp [hb]
    · exact hb
theorem sj_r_grow (A B : Nat → Nat) (k : Nat) (S : Nat → Bool) : sp_le S (sj_r A B k S) := sp_le_trans (sp_it_grow (sj_p_grow A B) S k) (sj_g_grow _)
theorem sj_r_fix {A B : Nat → Nat} {k : Nat} {S : Nat → Bool} (h : sj_r A B k S = S) : S 0 = S 1 ∧ ∀ i, i < k → S (A i) = S (B i) := by
  have h1 : sp_it (sj_p A B) k S = S := sp_le_eq (by have := sj_g_grow (sp_it (sj_p A B) k S); rw [show sj_g (sp_it (sj_p A B) k S) = S from h] at this; exact this) (sp_it_grow (sj_p_grow A B) S k)
  have h2 : sj_g S = S := by have := h; unfold sj_r at this; rw [h1] at this; exact this
  constructor
  · have e0 : sj_g S 0 = S 0 := congrFun h2 0
    have e1 : sj_g S 1 = S 1 := congrFun h2 1
    simp only [sj_g, va_up] at e0 e1
    cases h3 : S 0 <;> cases h4 : S 1 <;> simp [h3, h4] at e0 e1 ⊢
  · intro i hi
    have h3 := sp_it_fix (sj_p_grow A B) h1 i hi
    have eA : sj_p A B i S (A i) = S (A i) := congrFun h3 (A i)
    have eB : sj_p A B i S (B i) = S (B i) := congrFun h3 (B i)
    by_cases hab : A i = B i
    · rw [hab]
    · have eA' : sj_p A B i S (A i) = (S (A i) || S (B i)) := by
        simp only [sj_p]; rw [sp_up_n _ _ hab, sp_up_s]
      have eB' : sj_p A B i S (B i) = (S (A i) || S (B i)) := by
        simp only [sj_p]; rw [sp_up_s]
      rw [← eA, ← eB, eA', eB']
theorem sj_r_in {A B : Nat → Nat} {k n : Nat} (hn : 2 ≤ n) (hA : ∀ i, i < k → A i < n ∧ B i < n) {S : Nat → Bool} (hS : ∀ b, S b = true → b < n) : ∀ b, sj_r A B k S b = true → b < n := by
  have h1 : ∀ b, sp_it (sj_p A B) k S b = true → b < n := by
    refine sp_it_inv (I := fun _ (T : Nat → Bool) => ∀ b, T b = true → b < n) hS k ?_
    intro i T hi hT b hb
    simp only [sj_p, va_up] at hb
    by_cases h2 : b = B i
    · rw [h2]; exact (hA i hi).2
    · by_cases h3 : b = A i
      · rw [h3]; exact (hA i hi).1
      · rw [if_neg h2, if_neg h3] at hb; exact hT b hb
  intro b hb
  simp only [sj_r, sj_g, va_up] at hb
  by_cases h2 : b = 1
  · omega
  · by_cases h3 : b = 0
    · omega
    · rw [if_neg h2, if_neg h3] at hb; exact h1 b hb
/-- what the reference's 'joined' finds is what is joined -/
theorem sj_joined {A B : Nat → Nat} {k n x y : Nat} (hn : 2 ≤ n) (hA : ∀ i, i < k → A i < n ∧ B i < n) (hx : x < n) : sp_it (fun _ => sj_r A B k) n (fun b => decide (b = x)) y = true ↔ sj_C A B k x y := by
  have hin : ∀ b, (fun b => decide (b = x)) b = true → b < n := fun b hb => by have := of_decide_eq_true hb; omega
  constructor
  · intro h S h0 hS
    have key : ∀ b, sp_it (fun _ => sj_r A B k) n (fun b => decide (b = x)) b = true → S b = S x := by
      refine sp_it_inv (I := fun _ (T : Nat → Bool) => ∀ b, T b = true → S b = S x) (fun b hb => by rw [of_decide_eq_true hb]) n ?_
      intro _ T _ hT
      have h1 : ∀ b, sp_it (sj_p A B) k T b = true → S b = S x := by
        refine sp_it_inv (I := fun _ (T : Nat → Bool) => ∀ b, T b = true → S b = S x) hT k ?_
        intro i U hi hU b hb
        have hAB : (U (A i) || U (B i)) = true → S (A i) = S x := by
          intro hor
          cases hua : U (A i) with
          | true => exact hU _ hua
          | false =>
            rw [hua, Bool.false_or] at hor
            rw [hS i hi]; exact hU _ hor
        simp only [sj_p, va_up] at hb
        by_cases h2 : b = B i
        · rw [if_pos h2] at hb; rw [h2, ← hS i hi]; exact hAB hb
        · by_cases h3 : b = A i
          · rw [if_neg h2, if_pos h3] at hb; rw [h3]; exact hAB hb
          · rw [if_neg h2, if_neg h3] at hb; exact hU b hb
      intro b hb
      simp only [sj_r] at hb
      generalize sp_it (sj_p A B) k T = V at h1 hb
      have hG : (V 0 || V 1) = true → S 0 = S x := by
        intro hor
        cases hv : V 0 with
        | true => exact h1 _ hv
        | false =>
          rw [hv, Bool.false_or] at hor
          rw [h0]; exact h1 _ hor
      simp only [sj_g, va_up] at hb
      by_cases h2 : b = 1
      · rw [if_pos h2] at hb; rw [h2, ← h0]; exact hG hb
      · by_cases h3 : b = 0
        · rw [if_neg h2, if_pos h3] at hb; rw [h3]; exact hG hb
        · rw [if_neg h2, if_neg h3] at hb; exact h1 b hb
    exact (key y h).symm
  · intro hc
    have hfix := sp_rest (F := sj_r A B k) (st := fun S => S) (n := n) (I := fun S => ∀ b, S b = true → b < n) (fun S hS => sj_r_in hn hA hS) (fun S b _ hb => sj_r_grow A B k S b hb) (fun S b hS hb => hS b hb) (fun S _ hb => funext hb) (a := fun b => decide (b = x)) hin (sp_cnt_pos hx (by simp))
    have hrn := sp_rest_n (by omega) hfix
    rw [hrn]
    have hgx : sp_le (fun b => decide (b = x)) (sp_it (fun _ => sj_r A B k) (n - 1) (fun b => decide (b = x))) := sp_it_grow (f := fun _ => sj_r A B k) (fun _ S => sj_r_grow A B k S) _ (n - 1)
    generalize sp_it (fun _ => sj_r A B k) (n - 1) (fun b => decide (b = x)) = M at hfix hgx ⊢
    obtain ⟨h1, h2⟩ := sj_r_fix hfix
    rw [← hc M h1 h2]
    exact hgx x (by simp)
/-- labels of groups: x and y have one label iff they are joined -/
def sj_G (A B : Nat → Nat) (k n : Nat) (g : Nat → Nat) : Prop := ∀ x y, x < n → y < n → (g x = g y ↔ sj_C A B k x y)
def sj_join (n : Nat) (g : Nat → Nat) (a b : Nat) : Nat → Nat := fun i => if i < n ∧ g i = g b then g a else g i
theorem sj_G_0 {A B : Nat → Nat} {n : Nat} (_hn : 2 ≤ n) : sj_G A B 0 n (sj_join n (fun b => b) 0 1) := by
  intro x y hx hy
  simp only [sj_join, hx, hy, true_and]
  constructor
  · intro h S h0 _
    by_cases h1 : x = 1
    · by_cases h2 : y = 1
      · rw [h1, h2]
      · rw [if_pos h1, if_neg h2] at h; rw [h1, ← h, h0]
    · by_cases h2 : y = 1
      · rw [if_neg h1, if_pos h2] at h; rw [h2, h, h0]
      · rw [if_neg h1, if_neg h2] at h; rw [h]
  · intro hc
    have h1 := hc (fun b => decide ((if b = 1 then 0 else b) = (if x = 1 then 0 else x))) (by simp) (fun i hi => by omega)
    simp only [decide_true] at h1
    exact (of_decide_eq_true h1.symm).symm
theorem sj_G_step {A B : Nat → Nat} {k n : Nat} {g : Nat → Nat} (hn : 2 ≤ n) (hA : ∀ i, i < k + 1 → A i < n ∧ B i < n) (hG : sj_G A B k n g) : sj_G A B (k + 1) n (sj_join n g (A k) (B k)) := by
  obtain ⟨ha, hb⟩ := hA k (by omega)
  have hjb : sj_join n g (A k) (B k) (B k) = g (A k) := by simp [sj_join, hb]
  have hja : sj_join n g (A k) (B k) (A k) = g (A k) := by simp only [sj_join]; split <;> rfl
  have hold : ∀ x y, x < n → y < n → g x = g y → sj_join n g (A k) (B k) x = sj_join n g (A k) (B k) y := by
    intro x y hx hy hxy
    simp only [sj_join, hx, hy, true_and, hxy]
  intro x y hx hy
  constructor
  · intro h S h0 hS
    have hS' : ∀ i, i < k → S (A i) = S (B i) := fun i hi => hS i (by omega)
    have hg : ∀ u v, u < n → v < n → g u = g v → S u = S v := fun u v hu hv huv => (hG u v hu hv).mp huv S h0 hS'
    have hab : S (A k) = S (B k) := hS k (by omega)
    simp only [sj_join, hx, hy, true_and] at h
    by_cases h1 : g x = g (B k)
    · by_cases h2 : g y = g (B k)
      · exact hg x y hx hy (h1.trans h2.symm)
      · rw [if_pos h1, if_neg h2] at h
        rw [hg x (B k) hx hb h1, ← hab, hg (A k) y ha hy h]
    · by_cases h2 : g y = g (B k)
      · rw [if_neg h1, if_pos h2] at h
        rw [hg y (B k) hy hb h2, ← hab, hg x (A k) hx ha h]
      · rw [if_neg h1, if_neg h2] at h
        exact hg x y hx hy h
  · intro hc
    have h1 := hc (fun u => decide (sj_join n g (A k) (B k) u = sj_join n g (A k) (B k) x)) (by
        have := hold 0 1 (by omega) (by omega) ((hG 0 1 (by omega) (by omega)).mpr sj_C_gate)
        simp only [this]) (fun i hi => by
        obtain ⟨h2, h3⟩ := hA i hi
        by_cases hik : i = k
        · subst hik; simp only [hja, hjb]
        · have := hold (A i) (B i) h2 h3 ((hG _ _ h2 h3).mpr (sj_C_pair (by omega)))
          simp only [this])
    simp only [decide_true] at h1
    exact (of_decide_eq_true h1.symm).symm
/-- a pair is of the tree if its ends are not joined by those before it -/
def sj_T (A B : Nat → Nat) (i : Nat) : Prop := ¬ sj_C A B i (A i) (B i)
/-- every pair of the tree has a set that it alone of the tree crosses -/
theorem sj_cut {A B : Nat → Nat} (k : Nat) : ∀ i, i < k → sj_T A B i → ∃ S : Nat → Bool, S 0 = S 1 ∧ S (A i) ≠ S (B i) ∧ ∀ j, j < k → sj_T A B j → j ≠ i → S (A j) = S (B j) := by
  induction k with
  | zero => intro i hi; omega
  | succ k ih =>
    have hcl : ∀ u v, sj_C A B k u v → (@decide (sj_C A B k (B k) u) (Classical.propDecidable _)) = (@decide (sj_C A B k (B k) v) (Classical.propDecidable _)) := by
      intro u v huv
      by_cases h : sj_C A B k (B k) u
      · have h2 := sj_C_trans h huv
        simp [h, h2]
      · have h2 : ¬ sj_C A B k (B k) v := fun hc => h (sj_C_trans hc (sj_C_symm huv))
        simp [h, h2]
    intro i hi hTi
    by_cases hT : sj_T A B k
    · have hna : ¬ sj_C A B k (B k) (A k) := fun hc => hT (sj_C_symm hc)
      by_cases hik : i = k
      · subst hik
        refine ⟨fun u => @decide (sj_C A B i (B i) u) (Classical.propDecidable _), hcl 0 1 sj_C_gate, ?_, ?_⟩
        · simp [hna, sj_C_refl]
        · intro j hj _ hji
          exact hcl _ _ (sj_C_pair (by omega))
      · obtain ⟨S, h0, h1, h2⟩ := ih i (by omega) hTi
        by_cases hS : S (A k) = S (B k)
        · refine ⟨S, h0, h1, ?_⟩
          intro j hj hTj hji
          by_cases hjk : j = k
          · subst hjk; exact hS
          · exact h2 j (by omega) hTj hji
        · refine ⟨fun u => S u ^^ @decide (sj_C A B k (B k) u) (Classical.propDecidable _), ?_, ?_, ?_⟩
          · show (S 0 ^^ _) = (S 1 ^^ _)
            rw [h0, hcl 0 1 sj_C_gate]
          · show (S (A i) ^^ _) ≠ (S (B i) ^^ _)
            rw [hcl _ _ (sj_C_pair (i := i) (by omega))]
            intro hc
            apply h1
            have := congrArg (fun z => z ^^ (@decide (sj_C A B k (B k) (B i)) (Classical.propDecidable _))) hc
            simpa using this
          · intro j hj hTj hji
            show (S (A j) ^^ _) = (S (B j) ^^ _)
            by_cases hjk : j = k
            · subst hjk
              have e1 : @decide (sj_C A B j (B j) (A j)) (Classical.propDecidable _) = false := by simp [hna]
              have e2 : @decide (sj_C A B j (B j) (B j)) (Classical.propDecidable _) = true := by simp [sj_C_refl]
              rw [e1, e2]
              cases h3 : S (A j) <;> cases h4 : S (B j) <;> simp [h3, h4] at hS ⊢
            · rw [h2 j (by omega) hTj hji, hcl _ _ (sj_C_pair (i := j) (by omega))]
    · have hne : i ≠ k := fun hc => hT (by rw [← hc]; exact hTi)
      obtain ⟨S, h0, h1, h2⟩ := ih i (by omega) hTi
      refine ⟨S, h0, h1, ?_⟩
      intro j hj hTj hji
      by_cases hjk : j = k
      · subst hjk; exact absurd hTj hT
      · exact h2 j (by omega) hTj hji
/-- a set that no pair of the tree crosses is crossed by no pair -/
theorem sj_span {A B : Nat → Nat} {k : Nat} {S : Nat → Bool} (h0 : S 0 = S 1) (h : ∀ j, j < k → sj_T A B j → S (A j) = S (B j)) : ∀ j, j < k → S (A j) = S (B j) := by
  intro j
  induction j using Nat.strongRecOn with
  | _ j ih =>
    intro hj
    by_cases hT : sj_T A B j
    · exact h j hj hT
    · exact (Classical.not_not.mp hT) S h0 (fun i hi => ih i hi (by omega))
end
section
/-! pure side: the blocks behind an edge of the tree; the blocks that reach a block (draft of 2026-11-15) -/
def sb_s (fr to : Nat → Nat) (has : Nat → Bool) (cut e : Nat) (S : Nat → Bool) : Nat → Bool := if has e = true ∧ e ≠ cut ∧ (S (fr e) = true ∨ S (to e) = true) then va_up (va_up S (fr e) true) (to e) true else S
def sb_r (fr to : Nat → Nat) (has : Nat → Bool) (cut m : Nat) (S : Nat → Bool) : Nat → Bool := sp_it (sb_s fr to has cut) m S
def sb_near (fr to : Nat → Nat) (has : Nat → Bool) (cut m n : Nat) : Nat → Bool := sp_it (fun _ => sb_r fr to has cut m) (n - 1) (fun b => decide (b = 0 ∨ b = 1))
theorem sb_s_grow (fr to : Nat → Nat) (has : Nat → Bool) (cut e : Nat) (S : Nat → Bool) : sp_le S (sb_s fr to has cut e S) := by
  unfold sb_s
  split
  · exact sp_le_trans (sp_up_le (fun _ => rfl)) (sp_up_le (fun _ => rfl))
  · exact sp_le_refl S
theorem sb_r_in {fr to : Nat → Nat} {has : Nat → Bool} {cut m n : Nat} (hok : ∀ e, e < m → fr e < n ∧ to e < n) {S : Nat → Bool} (hS : ∀ b, S b = true → b < n) : ∀ b, sb_r fr to has cut m S b = true → b < n := by
  refine sp_it_inv (I := fun _ (T : Nat → Bool) => ∀ b, T b = true → b < n) hS m ?_
  intro e T he hT b hb
  simp only [sb_s] at hb
  split at hb
  · by_cases h2 : b = to e
    · rw [h2]; exact (hok e he).2
    · rw [sp_up_n _ _ h2] at hb
      by_cases h3 : b = fr e
      · rw [h3]; exact (hok e he).1
      · rw [sp_up_n _ _ h3] at hb; exact hT b hb
  · exact hT b hb
/-- cut is an edge of the tree, S a set that it alone of the tree crosses: then so is what is near -/
theorem sb_cut {n m cut : Nat} {fr to : Nat → Nat} {has : Nat → Bool} (hn : 2 ≤ n) (hok : ∀ e, e < m → fr e < n ∧ to e < n) (hcm : cut < m) {S : Nat → Bool} (h0 : S 0 = false) (h1 : S 1 = false) (hc : S (fr cut) ≠ S (to cut)) (hS : ∀ e, e < m → has e = true → e ≠ cut → S (fr e) = S (to e)) (hspan : ∀ T : Nat → Bool, T 0 = T 1 → (∀ e, e < m → has e = true → T (fr e) = T (to e)) → ∀ b, b < n → T b = T 0) : sb_near fr to has cut m n 0 = true ∧ sb_near fr to has cut m n 1 = true ∧ (∀ b, sb_near fr to has cut m n b = true → b < n) ∧ (∀ e, e < m → has e = true → e ≠ cut → sb_near fr to has cut m n (fr e) = sb_near fr to has cut m n (to e)) ∧ sb_near fr to has cut m n (fr cut) ≠ sb_near fr to has cut m n (to cut) := by
  have hin : ∀ b, (fun b => decide (b = 0 ∨ b = 1)) b = true → b < n := fun b hb => by have := of_decide_eq_true hb; omega
  have hg : ∀ T, sp_le T (sb_r fr to has cut m T) := fun T => sp_it_grow (sb_s_grow fr to has cut) T m
  have hfix := sp_rest (F := sb_r fr to has cut m) (st := fun S => S) (n := n) (I := fun S => ∀ b, S b = true → b < n) (fun S hS => sb_r_in hok hS) (fun S b _ hb => hg S b hb) (fun S b hS hb => hS b hb) (fun S _ hb => funext hb) (a := fun b => decide (b = 0 ∨ b = 1)) hin (sp_cnt_pos (j := 0) (by omega) (by simp))
  have hgx : sp_le (fun b => decide (b = 0 ∨ b = 1)) (sb_near fr to has cut m n) := sp_it_grow (f := fun _ => sb_r fr to has cut m) (fun _ S => hg S) _ (n - 1)
  have hlt : ∀ b, sb_near fr to has cut m n b = true → b < n := sp_it_inv (I := fun _ (T : Nat → Bool) => ∀ b, T b = true → b < n) hin (n - 1) (fun _ T _ hT => sb_r_in hok hT)
  have hout : ∀ b, sb_near fr to has cut m n b = true → S b = false := by
    refine sp_it_inv (I := fun _ (T : Nat → Bool) => ∀ b, T b = true → S b = false) ?_ (n - 1) ?_
    · intro b hb
      rcases of_decide_eq_true hb with h | h
      · rw [h]; exact h0
      · rw [h]; exact h1
    · intro _ T _ hT
      refine sp_it_inv (I := fun _ (T : Nat → Bool) => ∀ b, T b = true → S b = false) hT m ?_
      intro e U he hU b hb
      simp only [sb_s] at hb
      split at hb
      · next hcond =>
        obtain ⟨c1, c2, c3⟩ := hcond
        have hee := hS e he c1 c2
        have hf : S (fr e) = false := by
          rcases c3 with c3 | c3
          · exact hU _ c3
          · rw [hee]; exact hU _ c3
        by_cases h2 : b = to e
        · rw [h2, ← hee]; exact hf
        · rw [sp_up_n _ _ h2] at hb
          by_cases h3 : b = fr e
          · rw [h3]; exact hf
          · rw [sp_up_n _ _ h3] at hb; exact hU b hb
      · exact hU b hb
  have hfix : sb_r fr to has cut m (sb_near fr to has cut m n) = sb_near fr to has cut m n := hfix
  generalize sb_near fr to has cut m n = N at hfix hgx hlt hout ⊢
  have hcl : ∀ e, e < m → has e = true → e ≠ cut → N (fr e) = N (to e) := by
    intro e he c1 c2
    have h3 := sp_it_fix (sb_s_grow fr to has cut) hfix e he
    by_cases c3 : N (fr e) = true ∨ N (to e) = true
    · have h4 : sb_s fr to has cut e N = va_up (va_up N (fr e) true) (to e) true := by
        unfold sb_s; rw [if_pos ⟨c1, c2, c3⟩]
      have h5 : N (to e) = true := by rw [← h3, h4, sp_up_s]
      have h6 : N (fr e) = true := by
        rw [← h3, h4]
        by_cases h7 : fr e = to e
        · rw [h7, sp_up_s]
        · rw [sp_up_n _ _ h7, sp_up_s]
      rw [h5, h6]
    · have h5 : N (fr e) = false := by
        cases h : N (fr e) with
        | true => exact absurd (Or.inl h) c3
        | false => rfl
      have h6 : N (to e) = false := by
        cases h : N (to e) with
        | true => exact absurd (Or.inr h) c3
        | false => rfl
      rw [h5, h6]
  have hN0 : N 0 = true := hgx 0 (by simp)
  have hN1 : N 1 = true := hgx 1 (by simp)
  refine ⟨hN0, hN1, hlt, hcl, ?_⟩
  intro heq
  have hall := hspan N (by rw [hN0, hN1]) (fun e he hh => by
    by_cases hec : e = cut
    · rw [hec]; exact heq
    · exact hcl e he hh hec)
  have hf := hout _ ((hall (fr cut) (hok cut hcm).1).trans hN0)
  have ht := hout _ ((hall (to cut) (hok cut hcm).2).trans hN0)
  exact hc (by rw [hf, ht])
/-- the blocks that reach a block, never being at bar: a round, edges in their order -/
def sr_s (fr to : Nat → Nat) (bar : Option Nat) (e : Nat) (S : Nat → Bool) : Nat → Bool := if S (to e) = true ∧ some (fr e) ≠ bar then va_up S (fr e) true else S
def sr_r (fr to : Nat → Nat) (bar : Option Nat) (m : Nat) (S : Nat → Bool) : Nat → Bool := sp_it (sr_s fr to bar) m S
theorem sr_s_grow (fr to : Nat → Nat) (bar : Option Nat) (e : Nat) (S : Nat → Bool) : sp_le S (sr_s fr to bar e S) := by
  unfold sr_s
  split
  · exact sp_up_le (fun _ => rfl)
  · exact sp_le_refl S
theorem sr_r_in {fr to : Nat → Nat} {bar : Option Nat} {m n : Nat} (hok : ∀ e, e < m → fr e < n ∧ to e < n) {S : Nat → Bool} (hS : ∀ b, S b = true → b < n) : ∀ b, sr_r fr to bar m S b = true → b < n := by
  refine sp_it_inv (I := fun _ (T : Nat → Bool) => ∀ b, T b = true → b < n) hS m ?_
  intro e T he hT b hb
  simp only [sr_s] at hb
  split at hb
  · by_cases h3 : b = fr e
    · rw [h3]; exact (hok e he).1
    · rw [sp_up_n _ _ h3] at hb; exact hT b hb
  · exact hT b hb
/-- n rounds (the reference) or n - 1 (the system): one set; S has a block, or none at all -/
theorem sr_same {fr to : Nat → Nat} {bar : Option Nat} {m n : Nat} (hn : 1 ≤ n) (hok : ∀ e, e < m → fr e < n ∧ to e < n) {S : Nat → Bool} (hS : ∀ b, S b = true → b < n) : sp_it (fun _ => sr_r fr to bar m) n S = sp_it (fun _ => sr_r fr to bar m) (n - 1) S := by
  have hg : ∀ T, sp_le T (sr_r fr to bar m T) := fun T => sp_it_grow (sr_s_grow fr to bar) T m
  by_cases h : ∃ b, S b = true
  · obtain ⟨b, hb⟩ := h
    exact sp_rest_n hn (sp_rest (F := sr_r fr to bar m) (st := fun S => S) (n := n) (I := fun S => ∀ b, S b = true → b < n) (fun S hS => sr_r_in hok hS) (fun S b _ hb => hg S b hb) (fun S b hS hb => hS b hb) (fun S _ hb => funext hb) hS (sp_cnt_pos (hS b hb) hb))
  · have he : S = fun _ => false := by
      funext b
      cases hb : S b with
      | true => exact absurd ⟨b, hb⟩ h
      | false => rfl
    subst he
    have h1 : sr_r fr to bar m (fun _ => false) = fun _ => false := by
      refine sp_it_inv (I := fun _ (T : Nat → Bool) => T = fun _ => false) rfl m ?_
      intro e T _ hT
      subst hT
      unfold sr_s
      rw [if_neg (fun hc => by have := hc.1; simp at this)]
    have h2 : ∀ k, sp_it (fun _ => sr_r fr to bar m) k (fun _ => false) = fun _ => false := by
      intro k
      induction k with
      | zero => rfl
      | succ k ih => show sr_r fr to bar m (sp_it (fun _ => sr_r fr to bar m) k (fun _ => false)) = _; rw [ih, h1]
    rw [h2, h2]
end
section
/-! pure side: rows of links and values (draft of 2026-11-15) -/
/-- the rows that begin with a link from b among the first e edges -/
def sv_W (fr tg R : Nat → Nat) (b e : Nat) : Nat := sp_sum (fun x => if fr x = b then R (tg x) else 0) e
theorem sv_W_succ (fr tg R : Nat → Nat) (b e : Nat) : sv_W fr tg R b (e + 1) = sv_W fr tg R b e + (if fr e = b then R (tg e) else 0) := rfl
theorem sv_W_congr {fr tg R R' : Nat → Nat} {b e : Nat} (h : ∀ x, x < e → fr x = b → R' (tg x) = R (tg x)) : sv_W fr tg R' b e = sv_W fr tg R b e := by
  refine sp_sum_congr (fun x hx => ?_)
  by_cases hf : fr x = b
  · rw [if_pos hf, if_pos hf]; exact h x hx hf
  · rw [if_neg hf, if_neg hf]
/-- the system's numberFrom: values and rows of one block -/
def sv_from (fr tg R : Nat → Nat) (b m : Nat) (V : Nat → Nat) : (Nat → Nat) × Nat := sp_it (fun e (s : (Nat → Nat) × Nat) => if fr e = b then (va_up s.1 e s.2, s.2 + R (tg e)) else s) m (V, 0)
theorem sv_from_spec (fr tg R : Nat → Nat) (b m : Nat) (V : Nat → Nat) : (sv_from fr tg R b m V).2 = sv_W fr tg R b m ∧ ∀ e, (sv_from fr tg R b m V).1 e = if e < m ∧ fr e = b then sv_W fr tg R b e else V e := by
  refine sp_it_inv (I := fun i (s : (Nat → Nat) × Nat) => s.2 = sv_W fr tg R b i ∧ ∀ e, s.1 e = if e < i ∧ fr e = b then sv_W fr tg R b e else V e) ⟨rfl, fun e => by rw [if_neg (fun h => by omega)]⟩ m ?_
  intro i s _ hs
  obtain ⟨h1, h2⟩ := hs
  by_cases hf : fr i = b
  · rw [if_pos hf]
    refine ⟨?_, fun e => ?_⟩
    · show s.2 + R (tg i) = _
      rw [sv_W_succ, if_pos hf, h1]
    · show va_up s.1 i s.2 e = _
      by_cases he : e = i
      · rw [he, sp_up_s, if_pos ⟨by omega, hf⟩, h1]
      · rw [sp_up_n _ _ he, h2 e]
        by_cases hc : e < i ∧ fr e = b
        · rw [if_pos hc, if_pos ⟨by omega, hc.2⟩]
        · rw [if_neg hc, if_neg (fun h => hc ⟨by omega, h.2⟩)]
  · rw [if_neg hf]
    refine ⟨?_, fun e => ?_⟩
    · rw [sv_W_succ, if_neg hf, h1]; rfl
    · rw [h2 e]
      by_cases hc : e < i ∧ fr e = b
      · rw [if_pos hc, if_pos ⟨by omega, hc.2⟩]
      · rw [if_neg hc, if_neg (fun h => hc ⟨by
            by_cases he : e = i
            · rw [he] at h; exact absurd h.2 hf
            · omega, h.2⟩)]
/-- an order in which links lead to blocks that came earlier, or to EXIT -/
def sv_O (n m : Nat) (fr tg fin : Nat → Nat) : Prop := (∀ i, i < n → fin i < n) ∧ (∀ i j, i < n → j < n → fin i = fin j → i = j) ∧ (∀ b, b < n → ∃ i, i < n ∧ fin i = b) ∧ ∀ e, e < m → fr e ≠ 1 ∧ (tg e = 1 ∨ ∃ i j, i < j ∧ j < n ∧ fin i = tg e ∧ fin j = fr e)
/-- what rows and values are -/
def sv_R (n m : Nat) (fr tg R V : Nat → Nat) : Prop := R 1 = 1 ∧ (∀ b, b < n → b ≠ 1 → R b = sv_W fr tg R b m) ∧ ∀ e, e < m → V e = sv_W fr tg R (fr e) e
def sv_num (fr tg fin : Nat → Nat) (m n : Nat) (V R : Nat → Nat) : (Nat → Nat) × (Nat → Nat) := sp_it (fun i (s : (Nat → Nat) × (Nat → Nat)) => if fin i = 1 then s else ((sv_from fr tg s.2 (fin i) m s.1).1, va_up s.2 (fin i) (sv_from fr tg s.2 (fin i) m s.1).2)) n (V, va_up R 1 1)
theorem sv_num_spec {n m : Nat} {fr tg fin : Nat → Nat} (hO : sv_O n m fr tg fin) (hfr : ∀ e, e < m → fr e < n) (V0 R0 : Nat → Nat) : sv_R n m fr tg (sv_num fr tg fin m n V0 R0).2 (sv_num fr tg fin m n V0 R0).1 := by
  obtain ⟨hlt, hinj, hsur, hlk⟩ := hO
  have key : (sv_num fr tg fin m n V0 R0).2 1 = 1 ∧ ∀ j, j < n → fin j ≠ 1 → (sv_num fr tg fin m n V0 R0).2 (fin j) = sv_W fr tg (sv_num fr tg fin m n V0 R0).2 (fin j) m ∧ ∀ e, e < m → fr e = fin j → (sv_num fr tg fin m n V0 R0).1 e = sv_W fr tg (sv_num fr tg fin m n V0 R0).2 (fin j) e := by
    refine sp_it_inv (I := fun i (s : (Nat → Nat) × (Nat → Nat)) => s.2 1 = 1 ∧ ∀ j, j < i → fin j ≠ 1 → s.2 (fin j) = sv_W fr tg s.2 (fin j) m ∧ ∀ e, e < m → fr e = fin j → s.1 e = sv_W fr tg s.2 (fin j) e) ⟨sp_up_s R0 1 1, fun j hj => by omega⟩ n ?_
    intro i s hi hs
    obtain ⟨V, R⟩ := s
    obtain ⟨h1, h2⟩ := hs
    simp only at h1 h2
    by_cases hfi : fin i = 1
    · rw [if_pos hfi]
      refine ⟨h1, fun j hj hj1 => ?_⟩
      have hji : j ≠ i := fun hc => hj1 (by rw [hc]; exact hfi)
      exact h2 j (by omega) hj1
    · rw [if_neg hfi]
      obtain ⟨f1, f2⟩ := sv_from_spec fr tg R (fin i) m V
      have hW : ∀ v j e, j ≤ i → e ≤ m → sv_W fr tg (va_up R (fin i) v) (fin j) e = sv_W fr tg R (fin j) e := by
        intro v j e hj he
        refine sv_W_congr (fun x hx hfx => sp_up_n R v ?_)
        rcases (hlk x (by omega)).2 with ht | ⟨a, c, hac, hcn, hfa, hfc⟩
        · rw [ht]; exact fun hc => hfi hc.symm
        · have : c = j := hinj c j hcn (by omega) (by rw [hfc, hfx])
          intro hc
          have := hinj a i (by omega) hi (by rw [hfa, hc])
          omega
      simp only
      rw [f1]
      refine ⟨?_, fun j hj hj1 => ?_⟩
      · rw [sp_up_n R _ (fun hc => hfi hc.symm)]; exact h1
      · by_cases hji : j = i
        · subst hji
          refine ⟨?_, fun e he hfe => ?_⟩
          · rw [sp_up_s, hW _ j m (Nat.le_refl _) (Nat.le_refl _)]
          · rw [f2 e, if_pos ⟨he, hfe⟩, hW _ j e (Nat.le_refl _) (by omega)]
        · obtain ⟨g1, g2⟩ := h2 j (by omega) hj1
          have hne : fin j ≠ fin i := fun hc => hji (hinj j i (by omega) hi hc)
          refine ⟨?_, fun e he hfe => ?_⟩
          · rw [sp_up_n R _ hne, hW _ j m (by omega) (Nat.le_refl _)]; exact g1
          · rw [f2 e, if_neg (fun hc => hne (hfe.symm.trans hc.2)), hW _ j e (by omega) (by omega)]; exact g2 e he hfe
  generalize (sv_num fr tg fin m n V0 R0) = s at key ⊢
  obtain ⟨k1, k2⟩ := key
  refine ⟨k1, fun b hb hb1 => ?_, fun e he => ?_⟩
  · obtain ⟨j, hj, rfl⟩ := hsur b hb
    exact (k2 j hj hb1).1
  · obtain ⟨j, hj, hfj⟩ := hsur (fr e) (hfr e he)
    rw [← hfj]
    exact (k2 j hj (by rw [hfj]; exact (hlk e he).1)).2 e he hfj.symm
/-- rows are of one kind only: two that both hold agree -/
theorem sv_R_uniq {n m : Nat} {fr tg fin R R' : Nat → Nat} (hO : sv_O n m fr tg fin) (h1 : R 1 = R' 1) (h : ∀ b, b < n → b ≠ 1 → R b = sv_W fr tg R b m) (h' : ∀ b, b < n → b ≠ 1 → R' b = sv_W fr tg R' b m) : ∀ b, b < n → R b = R' b := by
  obtain ⟨hlt, hinj, hsur, hlk⟩ := hO
  have key : ∀ j, j < n → R (fin j) = R' (fin j) := by
    intro j
    induction j using Nat.strongRecOn with
    | _ j ih =>
      intro hj
      by_cases hf : fin j = 1
      · rw [hf]; exact h1
      · rw [h (fin j) (hlt j hj) hf, h' (fin j) (hlt j hj) hf]
        refine sv_W_congr (fun x hx hfx => ?_)
        rcases (hlk x hx).2 with ht | ⟨a, c, hac, hcn, hfa, hfc⟩
        · rw [ht]; exact h1
        · have hcj : c = j := hinj c j hcn hj (by rw [hfc, hfx])
          rw [← hfa]; exact ih a (by omega) (by omega)
  intro b hb
  obtain ⟨j, hj, rfl⟩ := hsur b hb
  exact key j hj
end
section
/-! pure side: the search runs to its end (draft of 2026-11-15, not built yet) -/
theorem sp_cnt_none {p : Nat → Bool} {k : Nat} (h : ∀ i, i < k → p i = false) : sp_cnt p k = 0 := by
  induction k with
  | zero => rfl
  | succ k ih =>
    show sp_cnt p k + _ = 0
    rw [ih (fun i hi => h i (by omega)), h k (by omega)]; rfl
theorem ss_step_eq (fr to : Nat → Nat) (m : Nat) (met look st : Nat → Nat) (h : Nat) (bk : Nat → Bool) (fin : Nat → Nat) (k b e : Nat) (hb : st h = b) (he : sg_nx fr b (m - look b) (look b) = e) : ss_step fr to m (met, look, st, h + 1, bk, fin, k) = if m ≤ e then (va_up met b 2, look, st, h, bk, va_up fin k b, k + 1) else if met (to e) = 0 then (va_up met (to e) 1, va_up (va_up look b (e + 1)) (to e) 0, va_up st (h + 1) (to e), h + 2, va_up bk e false, fin, k) else (met, va_up look b (e + 1), st, h + 1, va_up bk e (decide (met (to e) = 1)), fin, k) := by
  subst hb
  subst he
  rfl
theorem ss_step_0 (fr to : Nat → Nat) (m : Nat) (met look st : Nat → Nat) (bk : Nat → Bool) (fin : Nat → Nat) (k : Nat) : ss_step fr to m (met, look, st, 0, bk, fin, k) = (met, look, st, 0, bk, fin, k) := by
  rfl
def ss_J (n m : Nat) (fr to : Nat → Nat) (s : ss_T) : Prop := ss_I n m fr to s.1 s.2.1 s.2.2.1 s.2.2.2.1 s.2.2.2.2.1 s.2.2.2.2.2.1 s.2.2.2.2.2.2
def ss_mu (n m : Nat) (fr met look : Nat → Nat) : Nat := sp_cnt (fun b => decide (met b ≠ 2)) n + sp_cnt (fun e => decide (met (fr e) ≠ 2 ∧ ¬ (met (fr e) = 1 ∧ e < look (fr e)))) m
theorem ss_start {n m : Nat} {fr to look st fin : Nat → Nat} {bk : Nat → Bool} (hn : 2 ≤ n) (h0 : look 0 = 0) (hs : st 0 = 0) : ss_I n m fr to (va_up (fun _ => 0) 0 1) look st 1 bk fin 0 := by
  have hv : ∀ b, va_up (fun _ => 0) 0 1 b ≠ 0 → b = 0 := by
    intro b hb
    by_cases h : b = 0
    · exact h
    · rw [sp_up_n _ _ h] at hb; exact absurd rfl hb
  have hL : ∀ e, ¬ ss_L fr (va_up (fun _ => 0) 0 1) look e := by
    intro e hl
    rcases hl with h1 | ⟨h1, h2⟩
    · have h3 := hv (fr e) (by omega)
      rw [h3, sp_up_s] at h1; omega
    · have h3 := hv (fr e) (by omega)
      rw [h3, h0] at h2; omega
  refine ⟨?_, ?_, ?_, ?_, ?_, ?_, ?_, ?_, ?_, ?_, ?_, ?_, ?_⟩
  · intro i hi
    have : i = 0 := by omega
    subst this
    rw [hs, sp_up_s]; exact ⟨by omega, rfl⟩
  · intro i j hi hj _; omega
  · intro b _ h1
    exact ⟨0, by omega, by rw [hs, hv b (by omega)]⟩
  · intro i hi; omega
  · intro i j hi; omega
  · intro b _ h1
    have h3 := hv b (by omega)
    rw [h3, sp_up_s] at h1; omega
  · intro b _ h1
    rw [hv b (by omega), h0]; omega
  · intro b _
    by_cases h : b = 0
    · rw [h, sp_up_s]; omega
    · rw [sp_up_n _ _ h]; omega
  · intro e _ hl; exact absurd hl (hL e)
  · intro e _ hl; exact absurd hl (hL e)
  · intro b _ h1 S _
    rw [hv b h1]
  · have h1 := sp_cnt_up (p := fun _ => false) (q := fun b => decide (va_up (fun _ => 0) 0 1 b = 1)) (k := n) (j := 0) (by omega) rfl (by simp [va_up]) (fun i _ hi => by simp [va_up, hi])
    have h2 := sp_cnt_none (p := fun _ => false) (k := n) (fun _ _ => rfl)
    omega
  · have h2 := sp_cnt_none (p := fun b => decide (va_up (fun _ => 0) 0 1 b = 2)) (k := n) (fun b _ => by
      by_cases h : b = 0
      · simp [va_up, h]
      · simp [va_up, h])
    omega
/-- a step keeps what holds, and goes down -/
theorem ss_keep {n m : Nat} {fr to : Nat → Nat} (ht : ∀ e, e < m → fr e < n ∧ to e < n) (s : ss_T) (hJ : ss_J n m fr to s) : ss_J n m fr to (ss_step fr to m s) ∧ (s.2.2.2.1 ≠ 0 → ss_mu n m fr (ss_step fr to m s).1 (ss_step fr to m s).2.1 + 1 ≤ ss_mu n m fr s.1 s.2.1) := by
  obtain ⟨met, look, st, h, bk, fin, k⟩ := s
  have I : ss_I n m fr to met look st h bk fin k := hJ
  cases h with
  | zero =>
    rw [ss_step_0]
    exact ⟨hJ, fun hc => absurd rfl hc⟩
  | succ h =>
    obtain ⟨b, hb⟩ : ∃ b, st h = b := ⟨_, rfl⟩
    obtain ⟨e0, he⟩ : ∃ e, sg_nx fr b (m - look b) (look b) = e := ⟨_, rfl⟩
    rw [ss_step_eq fr to m met look st h bk fin k b e0 hb he]
    have hst := I.1 h (by omega)
    rw [hb] at hst
    obtain ⟨hbn, hb1⟩ := hst
    have hlm := I.2.2.2.2.2.2.1 b hbn hb1
    obtain ⟨x1, x2, x3, x4⟩ := sg_nx_spec fr b (m - look b) (look b)
    rw [he] at x1 x2 x3 x4
    by_cases hc : m ≤ e0
    · rw [if_pos hc]
      have hall : ∀ e, e < m → fr e = b → e < look b := by
        intro e hem hf
        by_cases hl : e < look b
        · exact hl
        · exact absurd hf (x3 e (by omega) (by omega))
      refine ⟨ss_pop ht I hb hall, fun _ => ?_⟩
      show ss_mu n m fr (va_up met b 2) look + 1 ≤ ss_mu n m fr met look
      have h1 := sp_cnt_up (p := fun x => decide (va_up met b 2 x ≠ 2)) (q := fun x => decide (met x ≠ 2)) (k := n) (j := b) hbn (by simp [va_up]) (by simp [hb1]) (fun i _ hi => by simp [va_up, hi])
      have h2 := sp_cnt_mono (p := fun e => decide (va_up met b 2 (fr e) ≠ 2 ∧ ¬ (va_up met b 2 (fr e) = 1 ∧ e < look (fr e)))) (q := fun e => decide (met (fr e) ≠ 2 ∧ ¬ (met (fr e) = 1 ∧ e < look (fr e)))) (k := m) (fun e _ hp => by
        by_cases hf : fr e = b
        · have hp := of_decide_eq_true hp
          rw [hf, sp_up_s] at hp
          exact absurd rfl hp.1
        · rw [sp_up_n met 2 hf] at hp; exact hp)
      unfold ss_mu
      omega
    · rw [if_neg hc]
      have hf0 : fr e0 = b := x4 (by omega)
      have hno : ∀ e, look b ≤ e → e < e0 → fr e ≠ b := fun e h1 h2 => x3 e h1 h2
      by_cases hm : met (to e0) = 0
      · rw [if_pos hm]
        refine ⟨ss_push I hb (by omega) hf0 x1 hno hm ht, fun _ => ?_⟩
        show ss_mu n m fr (va_up met (to e0) 1) (va_up (va_up look b (e0 + 1)) (to e0) 0) + 1 ≤ ss_mu n m fr met look
        have htb : b ≠ to e0 := fun hc2 => by rw [← hc2] at hm; omega
        have h1 : sp_cnt (fun x => decide (va_up met (to e0) 1 x ≠ 2)) n = sp_cnt (fun x => decide (met x ≠ 2)) n := sp_cnt_congr (fun i _ => by
          by_cases hi : i = to e0
          · simp [va_up, hi, hm]
          · simp [va_up, hi])
        have h2 := sp_cnt_lt (p := fun e => decide (va_up met (to e0) 1 (fr e) ≠ 2 ∧ ¬ (va_up met (to e0) 1 (fr e) = 1 ∧ e < va_up (va_up look b (e0 + 1)) (to e0) 0 (fr e)))) (q := fun e => decide (met (fr e) ≠ 2 ∧ ¬ (met (fr e) = 1 ∧ e < look (fr e)))) (k := m) (j := e0) (fun e _ hp => by
            have hp := of_decide_eq_true hp
            apply decide_eq_true
            by_cases hft : fr e = to e0
            · rw [hft, hm]; exact ⟨by decide, fun hx => by omega⟩
            · rw [sp_up_n met 1 hft, sp_up_n _ 0 hft] at hp
              by_cases hf : fr e = b
              · rw [hf, hb1, sp_up_s] at hp
                rw [hf, hb1]
                refine ⟨by decide, fun hx => hp.2 ⟨rfl, by omega⟩⟩
              · rw [sp_up_n look _ hf] at hp; exact hp) (by omega) (decide_eq_true (by rw [hf0, hb1]; exact ⟨by decide, fun hx => by omega⟩)) (fun hx => by
            have hx := of_decide_eq_true hx
            rw [hf0, sp_up_n met 1 htb, sp_up_n _ 0 htb, sp_up_s, hb1] at hx
            exact hx.2 ⟨rfl, by omega⟩)
        unfold ss_mu
        omega
      · rw [if_neg hm]
        refine ⟨ss_see I hb (by omega) hf0 x1 hno hm ht, fun _ => ?_⟩
        show ss_mu n m fr met (va_up look b (e0 + 1)) + 1 ≤ ss_mu n m fr met look
        have h2 := sp_cnt_lt (p := fun e => decide (met (fr e) ≠ 2 ∧ ¬ (met (fr e) = 1 ∧ e < va_up look b (e0 + 1) (fr e)))) (q := fun e => decide (met (fr e) ≠ 2 ∧ ¬ (met (fr e) = 1 ∧ e < look (fr e)))) (k := m) (j := e0) (fun e _ hp => by
            have hp := of_decide_eq_true hp
            apply decide_eq_true
            by_cases hf : fr e = b
            · rw [hf, hb1, sp_up_s] at hp
              rw [hf, hb1]
              refine ⟨by decide, fun hx => hp.2 ⟨rfl, by omega⟩⟩
            · rw [sp_up_n look _ hf] at hp; exact hp) (by omega) (decide_eq_true (by rw [hf0, hb1]; exact ⟨by decide, fun hx => by omega⟩)) (fun hx => by
            have hx := of_decide_eq_true hx
            rw [hf0, sp_up_s, hb1] at hx
            exact hx.2 ⟨rfl, by omega⟩)
        unfold ss_mu
        omega
theorem ss_top {n m : Nat} {fr to : Nat → Nat} (s : ss_T) (hJ : ss_J n m fr to s) (hh : s.2.2.2.1 ≠ 0) : 1 ≤ ss_mu n m fr s.1 s.2.1 := by
  obtain ⟨met, look, st, h, bk, fin, k⟩ := s
  have I : ss_I n m fr to met look st h bk fin k := hJ
  have h0 : h ≠ 0 := hh
  obtain ⟨h1, h2⟩ := I.1 0 (by omega)
  have h3 := sp_cnt_pos (p := fun b => decide (met b ≠ 2)) (k := n) (j := st 0) h1 (by simp [h2])
  show 1 ≤ ss_mu n m fr met look
  unfold ss_mu
  omega
abbrev ss_run (fr to : Nat → Nat) (m i : Nat) (s : ss_T) : ss_T := sp_it (fun _ => ss_step fr to m) i s
theorem ss_run_J {n m : Nat} {fr to : Nat → Nat} (ht : ∀ e, e < m → fr e < n ∧ to e < n) {s : ss_T} (hJ : ss_J n m fr to s) (i : Nat) : ss_J n m fr to (ss_run fr to m i s) ∧ ((ss_run fr to m i s).2.2.2.1 = 0 ∨ ss_mu n m fr (ss_run fr to m i s).1 (ss_run fr to m i s).2.1 + i ≤ ss_mu n m fr s.1 s.2.1) := by
  induction i with
  | zero => exact ⟨hJ, Or.inr (Nat.le_refl _)⟩
  | succ i ih =>
    obtain ⟨i1, i2⟩ := ih
    have e1 : ss_run fr to m (i + 1) s = ss_step fr to m (ss_run fr to m i s) := rfl
    rw [e1]
    generalize ss_run fr to m i s = x at i1 i2 ⊢
    obtain ⟨k1, k2⟩ := ss_keep ht x i1
    refine ⟨k1, ?_⟩
    by_cases hx : x.2.2.2.1 = 0
    · left
      obtain ⟨met, look, st, h, bk, fin, k⟩ := x
      have hx : h = 0 := hx
      subst hx
      rw [ss_step_0]
    · right
      have := k2 hx
      rcases i2 with i2 | i2
      · exact absurd i2 hx
      · omega
theorem ss_stay {fr to : Nat → Nat} {m : Nat} {s : ss_T} (hh : s.2.2.2.1 = 0) (i : Nat) : ss_run fr to m i s = s := by
  induction i with
  | zero => rfl
  | succ i ih =>
    have e1 : ss_run fr to m (i + 1) s = ss_step fr to m (ss_run fr to m i s) := rfl
    rw [e1, ih]
    obtain ⟨met, look, st, h, bk, fin, k⟩ := s
    have hx : h = 0 := hh
    subst hx
    exact ss_step_0 fr to m met look st bk fin k
theorem ss_run_add (fr to : Nat → Nat) (m i j : Nat) (s : ss_T) : ss_run fr to m (i + j) s = ss_run fr to m j (ss_run fr to m i s) := by
  induction j with
  | zero => rfl
  | succ j ih =>
    have e1 : ss_run fr to m (i + (j + 1)) s = ss_step fr to m (ss_run fr to m (i + j) s) := rfl
    rw [e1, ih]
    rfl
/-- the search has ended after n + m steps -/
theorem ss_over {n m : Nat} {fr to : Nat → Nat} (ht : ∀ e, e < m → fr e < n ∧ to e < n) {s : ss_T} (hJ : ss_J n m fr to s) : (ss_run fr to m (n + m) s).2.2.2.1 = 0 := by
  obtain ⟨i1, i2⟩ := ss_run_J ht hJ (n + m)
  have hle : ss_mu n m fr s.1 s.2.1 ≤ n + m := by
    have h1 := sp_cnt_le (fun b => decide (s.1 b ≠ 2)) n
    have h2 := sp_cnt_le (fun e => decide (s.1 (fr e) ≠ 2 ∧ ¬ (s.1 (fr e) = 1 ∧ e < s.2.1 (fr e)))) m
    unfold ss_mu
    omega
  generalize ss_run fr to m (n + m) s = x at i1 i2 ⊢
  by_cases hx : x.2.2.2.1 = 0
  · exact hx
  · have := ss_top x i1 hx
    rcases i2 with i2 | i2
    · exact i2
    · omega
/-- wherever the stack is found empty: that is the end -/
theorem ss_same {n m : Nat} {fr to : Nat → Nat} (ht : ∀ e, e < m → fr e < n ∧ to e < n) {s : ss_T} (hJ : ss_J n m fr to s) {i : Nat} (h : (ss_run fr to m i s).2.2.2.1 = 0) : ss_run fr to m i s = ss_run fr to m (n + m) s := by
  by_cases hi : i ≤ n + m
  · obtain ⟨j, hj⟩ : ∃ j, n + m = i + j := ⟨n + m - i, by omega⟩
    rw [hj, ss_run_add, ss_stay h]
  · obtain ⟨j, hj⟩ : ∃ j, i = n + m + j := ⟨i - (n + m), by omega⟩
    rw [hj, ss_run_add, ss_stay (ss_over ht hJ)]
/-- what holds at the end, if every block was met -/
theorem ss_good {n m : Nat} {fr to met look st fin : Nat → Nat} {bk : Nat → Bool} {k : Nat} (hfr : ∀ e, e < m → fr e < n ∧ to e < n ∧ fr e ≠ 1 ∧ to e ≠ 0) (I : ss_I n m fr to met look st 0 bk fin k) (hall : ∀ b, b < n → met b ≠ 0) : k = n ∧ (∀ b, b < n → met b = 2) ∧ sv_O n m fr (fun e => if bk e = true then 1 else to e) fin ∧ ∀ b, b < n → ∀ S : Nat → Bool, (∀ e, e < m → bk e = false → S (fr e) = S (to e)) → S b = S 0 := by
  obtain ⟨iA, iB, iC, iD, iE, iF, iG, iH, iJ, iK, iM, iN, iO⟩ := I
  have h2 : ∀ b, b < n → met b = 2 := by
    intro b hb
    have h3 := iH b hb
    have h4 := hall b hb
    by_cases h5 : met b = 1
    · obtain ⟨i, hi, _⟩ := iC b hb h5
      omega
    · omega
  have hk : k = n := by
    have h3 := sp_cnt_congr (p := fun b => decide (met b = 2)) (q := fun _ => true) (k := n) (fun b hb => by simp [h2 b hb])
    have h4 : ∀ k, sp_cnt (fun _ => true) k = k := by
      intro k
      induction k with
      | zero => rfl
      | succ k ih => show sp_cnt (fun _ => true) k + 1 = k + 1; rw [ih]
    rw [iO, h3, h4]
  have hL : ∀ e, e < m → ss_L fr met look e := fun e he => Or.inl (h2 _ (hfr e he).1)
  subst hk
  refine ⟨rfl, h2, ⟨fun i hi => (iD i hi).1, iE, fun b hb => iF b hb (h2 b hb), fun e he => ⟨(hfr e he).2.2.1, ?_⟩⟩, fun b hb S hS => iM b hb (hall b hb) S (fun e he _ hbk => hS e he hbk)⟩
  by_cases hbk : bk e = true
  · left; exact if_pos hbk
  · right
    have hbf : bk e = false := by
      cases h : bk e with
      | true => exact absurd h hbk
      | false => rfl
    have e9 : (fun e => if bk e = true then 1 else to e) e = to e := if_neg hbk
    rw [e9]
    rcases iK e he (hL e he) hbf with ⟨h3, h4⟩ | ⟨i, j, _, hj, _⟩
    · obtain ⟨j, hj, hfj⟩ := iF (fr e) (hfr e he).1 (h2 _ (hfr e he).1)
      obtain ⟨i, hij, hfi⟩ := h4 j hj hfj
      exact ⟨i, j, hij, hj, hfi, hfj⟩
    · omega
end
section
/-! pure side: the order of edges; bases (draft of 2026-11-15, not built yet) -/
/-- f comes before e -/
def so_b (w : Nat → Nat) (e f : Nat) : Bool := decide (w e < w f ∨ (w f = w e ∧ f < e))
def so_rk (w : Nat → Nat) (m e : Nat) : Nat := sp_cnt (so_b w e) m
theorem sp_cnt_true (k : Nat) : sp_cnt (fun _ => true) k = k := by
  induction k with
  | zero => rfl
  | succ k ih => show sp_cnt (fun _ => true) k + 1 = k + 1; rw [ih]
theorem so_rk_mono {w : Nat → Nat} {m e f : Nat} (hf : f < m) (h : so_b w e f = true) : so_rk w m f < so_rk w m e := by
  have h1 := of_decide_eq_true h
  refine sp_cnt_lt (fun i _ hi => ?_) hf h ?_
  · have h2 := of_decide_eq_true hi
    exact decide_eq_true (by omega)
  · intro hc
    have := of_decide_eq_true hc
    omega
theorem so_rk_inj {w : Nat → Nat} {m e f : Nat} (he : e < m) (hf : f < m) (h : so_rk w m e = so_rk w m f) : e = f := by
  by_cases hef : e = f
  · exact hef
  · by_cases hb : so_b w e f = true
    · have := so_rk_mono (w := w) (m := m) hf hb
      omega
    · have h1 : ¬ (w e < w f ∨ (w f = w e ∧ f < e)) := fun hc => hb (decide_eq_true hc)
      have h2 : so_b w f e = true := decide_eq_true (by omega)
      have := so_rk_mono (w := w) (m := m) he h2
      omega
theorem so_rk_in {w : Nat → Nat} {m e : Nat} (he : e < m) : so_rk w m e < m := by
  have h := sp_cnt_lt (p := so_b w e) (q := fun _ => true) (k := m) (fun _ _ _ => rfl) he rfl (fun hc => by have := of_decide_eq_true hc; omega)
  rw [sp_cnt_true] at h
  exact h
/-- the reference's order -/
def so_ref (w : Nat → Nat) (m : Nat) (s : Nat → Nat) : Nat → Nat := sp_it (fun e s => va_up s (so_rk w m e) e) m s
theorem so_ref_spec (w : Nat → Nat) (m : Nat) (s : Nat → Nat) : ∀ e, e < m → so_ref w m s (so_rk w m e) = e := by
  have key : ∀ i, i ≤ m → ∀ e, e < i → sp_it (fun e s => va_up s (so_rk w m e) e) i s (so_rk w m e) = e := by
    intro i
    induction i with
    | zero => intro _ e he; omega
    | succ i ih =>
      intro hi e he
      show va_up (sp_it (fun e s => va_up s (so_rk w m e) e) i s) (so_rk w m i) i (so_rk w m e) = e
      by_cases hei : e = i
      · rw [hei, sp_up_s]
      · rw [sp_up_n _ _ (fun hc => hei (so_rk_inj (by omega) (by omega) hc))]
        exact ih (by omega) e (by omega)
  exact key m (Nat.le_refl m)
/-- the system's: weights from m down, edges up -/
def so_in (w : Nat → Nat) (W e : Nat) (s : (Nat → Nat) × Nat) : (Nat → Nat) × Nat := if w e = W then (va_up s.1 s.2 e, s.2 + 1) else s
def so_sys (w : Nat → Nat) (m : Nat) (s : Nat → Nat) : (Nat → Nat) × Nat := sp_it (fun j t => sp_it (so_in w (m - j)) m t) (m + 1) (s, 0)
theorem so_sys_spec {w : Nat → Nat} {m : Nat} (hw : ∀ f, f < m → w f ≤ m) (s : Nat → Nat) : (so_sys w m s).2 = m ∧ ∀ x, x < m → ∃ e, e < m ∧ (so_sys w m s).1 x = e ∧ so_rk w m e = x := by
  have key : (so_sys w m s).2 = sp_cnt (fun f => decide (m < w f + (m + 1))) m ∧ ∀ x, x < (so_sys w m s).2 → ∃ e, e < m ∧ (so_sys w m s).1 x = e ∧ so_rk w m e = x := by
    refine sp_it_inv (I := fun j (t : (Nat → Nat) × Nat) => t.2 = sp_cnt (fun f => decide (m < w f + j)) m ∧ ∀ x, x < t.2 → ∃ e, e < m ∧ t.1 x = e ∧ so_rk w m e = x) ⟨?_, fun x hx => by simp at hx⟩ (m + 1) ?_
    · show 0 = _
      rw [sp_cnt_none (fun f hf => decide_eq_false (by have := hw f hf; omega))]
    · intro j t hj ht
      have h2 : (sp_it (so_in w (m - j)) m t).2 = sp_cnt (fun f => decide (m - j < w f ∨ (w f = m - j ∧ f < m))) m ∧ ∀ x, x < (sp_it (so_in w (m - j)) m t).2 → ∃ e, e < m ∧ (sp_it (so_in w (m - j)) m t).1 x = e ∧ so_rk w m e = x := by
        refine sp_it_inv (I := fun i (t : (Nat → Nat) × Nat) => t.2 = sp_cnt (fun f => decide (m - j < w f ∨ (w f = m - j ∧ f < i))) m ∧ ∀ x, x < t.2 → ∃ e, e < m ∧ t.1 x = e ∧ so_rk w m e = x) ⟨?_, ht.2⟩ m ?_
        · rw [ht.1]
          exact sp_cnt_congr (fun f _ => decide_eq_decide.mpr (by omega))
        · intro i u hi hu
          obtain ⟨u1, u2⟩ := hu
          unfold so_in
          by_cases hwi : w i = m - j
          · rw [if_pos hwi]
            have hrk : u.2 = so_rk w m i := by
              rw [u1]
              exact sp_cnt_congr (fun f _ => decide_eq_decide.mpr (by omega))
            refine ⟨?_, fun x hx => ?_⟩
            · show u.2 + 1 = _
              rw [u1]
              exact (sp_cnt_up (p := fun f => decide (m - j < w f ∨ (w f = m - j ∧ f < i))) (q := fun f => decide (m - j < w f ∨ (w f = m - j ∧ f < i + 1))) hi (decide_eq_false (by omega)) (decide_eq_true (by omega)) (fun f _ hf => decide_eq_decide.mpr (by omega))).symm
            · have hx : x < u.2 + 1 := hx
              by_cases hxu : x = u.2
              · exact ⟨i, hi, by rw [hxu]; exact sp_up_s _ _ _, by rw [hxu, hrk]⟩
              · obtain ⟨e, he, h3, h4⟩ := u2 x (by omega)
                exact ⟨e, he, by rw [← h3]; exact sp_up_n _ _ hxu, h4⟩
          · rw [if_neg hwi]
            refine ⟨?_, u2⟩
            rw [u1]
            refine sp_cnt_congr (fun f _ => decide_eq_decide.mpr ?_)
            by_cases hfi : f = i
            · rw [hfi]; omega
            · omega
      refine ⟨?_, h2.2⟩
      rw [h2.1]
      exact sp_cnt_congr (fun f hf => decide_eq_decide.mpr (by omega))
  have hm : (so_sys w m s).2 = m := by
    rw [key.1, sp_cnt_congr (q := fun _ => true) (fun f _ => decide_eq_true (by omega)), sp_cnt_true]
  refine ⟨hm, fun x hx => key.2 x (by omega)⟩
/-- both are one order -/
theorem so_same {w : Nat → Nat} {m : Nat} (hw : ∀ f, f < m → w f ≤ m) (s t : Nat → Nat) : ∀ x, x < m → (so_sys w m s).1 x = so_ref w m t x ∧ so_ref w m t x < m := by
  intro x hx
  obtain ⟨e, he, h1, h2⟩ := (so_sys_spec hw s).2 x hx
  have h3 := so_ref_spec w m t e he
  rw [h2] at h3
  rw [h1, h3]
  exact ⟨rfl, he⟩
/-! bases -/
theorem sp_it_fix2 {α : Type} {f : Nat → α → α} {st : α → Nat → Bool} (hf : ∀ i a, sp_le (st a) (st (f i a))) (hi : ∀ i a, st (f i a) = st a → f i a = a) (k : Nat) : ∀ a, sp_le (st a) (st (sp_it f k a)) ∧ (st (sp_it f k a) = st a → sp_it f k a = a) := by
  induction k with
  | zero => intro a; exact ⟨sp_le_refl _, fun _ => rfl⟩
  | succ k ih =>
    intro a
    obtain ⟨h1, h2⟩ := ih a
    have h3 : sp_le (st (sp_it f k a)) (st (sp_it f (k + 1) a)) := hf k _
    refine ⟨sp_le_trans h1 h3, fun h => ?_⟩
    rw [h] at h3
    have h4 := h2 (sp_le_eq h3 h1)
    have h5 : sp_it f (k + 1) a = f k (sp_it f k a) := rfl
    rw [h5, h4] at h
    rw [h5, h4]
    exact hi k a h
theorem sp_it_beyond {α : Type} {f : Nat → α → α} {a : α} {m k : Nat} (hmk : m ≤ k) (h : ∀ i x, m ≤ i → i < k → f i x = x) : sp_it f k a = sp_it f m a := by
  induction k with
  | zero => have : m = 0 := by omega
            subst this; rfl
  | succ k ih =>
    by_cases hm : m = k + 1
    · rw [hm]
    · show f k (sp_it f k a) = _
      rw [h k _ (by omega) (by omega)]
      exact ih (by omega) (fun i x h1 h2 => h i x h1 (by omega))
abbrev sa_T : Type := (Nat → Bool) × (Nat → Int)
def sa_s (fr to : Nat → Nat) (has : Nat → Bool) (V : Nat → Int) (e : Nat) (s : sa_T) : sa_T := if has e = true then (if s.1 (fr e) = true ∧ s.1 (to e) = false then (va_up s.1 (to e) true, va_up s.2 (to e) (s.2 (fr e) + V e)) else if s.1 (to e) = true ∧ s.1 (fr e) = false then (va_up s.1 (fr e) true, va_up s.2 (fr e) (s.2 (to e) - V e)) else s) else s
def sa_r (fr to : Nat → Nat) (has : Nat → Bool) (V : Nat → Int) (m : Nat) (s : sa_T) : sa_T := sp_it (sa_s fr to has V) m s
theorem sa_s_grow (fr to : Nat → Nat) (has : Nat → Bool) (V : Nat → Int) (e : Nat) (s : sa_T) : sp_le s.1 (sa_s fr to has V e s).1 ∧ ((sa_s fr to has V e s).1 = s.1 → sa_s fr to has V e s = s) := by
  unfold sa_s
  by_cases h0 : has e = true
  · rw [if_pos h0]
    by_cases h1 : s.1 (fr e) = true ∧ s.1 (to e) = false
    · rw [if_pos h1]
      refine ⟨sp_up_le (fun _ => rfl), fun h => ?_⟩
      have h2 := congrFun h (to e)
      rw [show (va_up s.1 (to e) true, va_up s.2 (to e) (s.2 (fr e) + V e)).1 (to e) = true from sp_up_s _ _ _, h1.2] at h2
      cases h2
    · rw [if_neg h1]
      by_cases h3 : s.1 (to e) = true ∧ s.1 (fr e) = false
      · rw [if_pos h3]
        refine ⟨sp_up_le (fun _ => rfl), fun h => ?_⟩
        have h2 := congrFun h (fr e)
        rw [show (va_up s.1 (fr e) true, va_up s.2 (fr e) (s.2 (to e) - V e)).1 (fr e) = true from sp_up_s _ _ _, h3.2] at h2
        cases h2
      · rw [if_neg h3]
        exact ⟨sp_le_refl _, fun _ => rfl⟩
  · rw [if_neg h0]
    exact ⟨sp_le_refl _, fun _ => rfl⟩
theorem sa_s_in {fr to : Nat → Nat} {has : Nat → Bool} {V : Nat → Int} {e n : Nat} (he : fr e < n ∧ to e < n) {s : sa_T} (hs : ∀ b, s.1 b = true → b < n) : ∀ b, (sa_s fr to has V e s).1 b = true → b < n := by
  unfold sa_s
  intro b hb
  by_cases h0 : has e = true
  · rw [if_pos h0] at hb
    by_cases h1 : s.1 (fr e) = true ∧ s.1 (to e) = false
    · rw [if_pos h1] at hb
      by_cases h2 : b = to e
      · rw [h2]; exact he.2
      · exact hs b (by rw [← sp_up_n s.1 true h2]; exact hb)
    · rw [if_neg h1] at hb
      by_cases h3 : s.1 (to e) = true ∧ s.1 (fr e) = false
      · rw [if_pos h3] at hb
        by_cases h2 : b = fr e
        · rw [h2]; exact he.1
        · exact hs b (by rw [← sp_up_n s.1 true h2]; exact hb)
      · rw [if_neg h3] at hb; exact hs b hb
  · rw [if_neg h0] at hb; exact hs b hb
/-- n rounds or n - 1: the same bases -/
theorem sa_same {fr to : Nat → Nat} {has : Nat → Bool} {V : Nat → Int} {m n : Nat} (hn : 2 ≤ n) (hok : ∀ e, e < m → fr e < n ∧ to e < n) {s : sa_T} (hs : ∀ b, s.1 b = true → b < n) (h0 : s.1 0 = true) : sp_it (fun _ => sa_r fr to has V m) n s = sp_it (fun _ => sa_r fr to has V m) (n - 1) s := by
  have hin : ∀ t : sa_T, (∀ b, t.1 b = true → b < n) → ∀ b, (sa_r fr to has V m t).1 b = true → b < n := fun t ht => sp_it_inv (I := fun _ (t : sa_T) => ∀ b, t.1 b = true → b < n) ht m (fun i x hi hx => sa_s_in (hok i hi) hx)
  have hg := fun t : sa_T => sp_it_fix2 (f := sa_s fr to has V) (st := fun t : sa_T => t.1) (fun i a => (sa_s_grow fr to has V i a).1) (fun i a => (sa_s_grow fr to has V i a).2) m t
  refine sp_rest_n (by omega) (sp_rest (F := sa_r fr to has V m) (st := fun t : sa_T => t.1) (n := n) (I := fun t : sa_T => ∀ b, t.1 b = true → b < n) hin (fun t b _ hb => (hg t).1 b hb) (fun t b ht hb => ht b hb) (fun t _ hb => (hg t).2 (funext hb)) hs (sp_cnt_pos (j := 0) (by omega) h0))
theorem sa_zero {fr to : Nat → Nat} {has : Nat → Bool} {V : Nat → Int} {m : Nat} (k : Nat) {s : sa_T} (h0 : s.1 0 = true) (h1 : s.1 1 = true) : (sp_it (fun _ => sa_r fr to has V m) k s).2 0 = s.2 0 ∧ (sp_it (fun _ => sa_r fr to has V m) k s).2 1 = s.2 1 := by
  have hstep : ∀ e (t : sa_T), t.1 0 = true ∧ t.1 1 = true ∧ t.2 0 = s.2 0 ∧ t.2 1 = s.2 1 → (sa_s fr to has V e t).1 0 = true ∧ (sa_s fr to has V e t).1 1 = true ∧ (sa_s fr to has V e t).2 0 = s.2 0 ∧ (sa_s fr to has V e t).2 1 = s.2 1 := by
    intro e t ht
    obtain ⟨t0, t1, t2, t3⟩ := ht
    have gen : ∀ x v, t.1 x = false → va_up t.1 x true 0 = true ∧ va_up t.1 x true 1 = true ∧ va_up t.2 x v 0 = s.2 0 ∧ va_up t.2 x v 1 = s.2 1 := by
      intro x v hx
      have hx0 : 0 ≠ x := fun hc => by rw [← hc, t0] at hx; cases hx
      have hx1 : 1 ≠ x := fun hc => by rw [← hc, t1] at hx; cases hx
      rw [sp_up_n _ _ hx0, sp_up_n _ _ hx1, sp_up_n _ _ hx0, sp_up_n _ _ hx1]
      exact ⟨t0, t1, t2, t3⟩
    unfold sa_s
    by_cases c0 : has e = true
    · rw [if_pos c0]
      by_cases c1 : t.1 (fr e) = true ∧ t.1 (to e) = false
      · rw [if_pos c1]; exact gen _ _ c1.2
      · rw [if_neg c1]
        by_cases c2 : t.1 (to e) = true ∧ t.1 (fr e) = false
        · rw [if_pos c2]; exact gen _ _ c2.2
        · rw [if_neg c2]; exact ⟨t0, t1, t2, t3⟩
    · rw [if_neg c0]; exact ⟨t0, t1, t2, t3⟩
  have key : (sp_it (fun _ => sa_r fr to has V m) k s).1 0 = true ∧ (sp_it (fun _ => sa_r fr to has V m) k s).1 1 = true ∧ (sp_it (fun _ => sa_r fr to has V m) k s).2 0 = s.2 0 ∧ (sp_it (fun _ => sa_r fr to has V m) k s).2 1 = s.2 1 := by
    refine sp_it_inv (I := fun _ (t : sa_T) => t.1 0 = true ∧ t.1 1 = true ∧ t.2 0 = s.2 0 ∧ t.2 1 = s.2 1) ⟨h0, h1, rfl, rfl⟩ k ?_
    intro _ t _ ht
    exact sp_it_inv (I := fun _ (t : sa_T) => t.1 0 = true ∧ t.1 1 = true ∧ t.2 0 = s.2 0 ∧ t.2 1 = s.2 1) ht m (fun e x _ hx => hstep e x hx)
  exact key.2.2
end
section
/-! pure side: ways and their numbers (draft of 2026-11-15, not built yet) -/
theorem sp_sum_gap {f : Nat → Nat} {j k : Nat} (h : j ≤ k) (hz : ∀ i, j ≤ i → i < k → f i = 0) : sp_sum f k = sp_sum f j := by
  induction k with
  | zero => have : j = 0 := by omega
            subst this; rfl
  | succ k ih =>
    by_cases hj : j = k + 1
    · rw [hj]
    · show sp_sum f k + f k = _
      rw [hz k (by omega) (by omega), ih (by omega) (fun i h1 h2 => hz i h1 (by omega))]; rfl
def sw_W (isL : Nat → Bool) (lf lt R : Nat → Nat) (b l : Nat) : Nat := sp_sum (fun x => if isL x = true ∧ lf x = b then R (lt x) else 0) l
theorem sw_W_at {isL : Nat → Bool} {lf lt R : Nat → Nat} {b l k : Nat} (h : l < k) (hl : isL l = true) (hb : lf l = b) : sw_W isL lf lt R b l + R (lt l) ≤ sw_W isL lf lt R b k := by
  have h1 := sp_sum_ge (f := fun x => if isL x = true ∧ lf x = b then R (lt x) else 0) h
  have h2 : (if isL l = true ∧ lf l = b then R (lt l) else 0) = R (lt l) := if_pos ⟨hl, hb⟩
  have h3 : sp_sum (fun x => if isL x = true ∧ lf x = b then R (lt x) else 0) l + (if isL l = true ∧ lf l = b then R (lt l) else 0) ≤ sp_sum (fun x => if isL x = true ∧ lf x = b then R (lt x) else 0) k := h1
  rw [h2] at h3
  exact h3
theorem sw_W_gap {isL : Nat → Bool} {lf lt R : Nat → Nat} {b j k : Nat} (h : j ≤ k) (hz : ∀ x, j ≤ x → x < k → ¬ (isL x = true ∧ lf x = b)) : sw_W isL lf lt R b k = sw_W isL lf lt R b j := sp_sum_gap h (fun x h1 h2 => if_neg (hz x h1 h2))
theorem sw_W_next {isL : Nat → Bool} {lf lt R : Nat → Nat} {b l k : Nat} (h : l < k) (hl : isL l = true) (hb : lf l = b) (hz : ∀ x, l < x → x < k → ¬ (isL x = true ∧ lf x = b)) : sw_W isL lf lt R b k = sw_W isL lf lt R b l + R (lt l) := by
  rw [sw_W_gap (j := l + 1) h (fun x h1 h2 => hz x h1 h2)]
  show sp_sum _ l + (if isL l = true ∧ lf l = b then R (lt l) else 0) = _
  rw [if_pos ⟨hl, hb⟩]
  rfl
def sw_H (n N : Nat) (isL : Nat → Bool) (lf lt R rho : Nat → Nat) : Prop := R 1 = 1 ∧ (∀ b, b < n → b ≠ 1 → R b = sw_W isL lf lt R b N) ∧ (∀ l, l < N → isL l = true → lf l < n ∧ lf l ≠ 1 ∧ lt l < n ∧ rho (lt l) < rho (lf l)) ∧ (∀ b, b < n → b ≠ 1 → ∃ l, l < N ∧ isL l = true ∧ lf l = b)
abbrev sw_V (isL : Nat → Bool) (lf lt R : Nat → Nat) (l : Nat) : Nat := sw_W isL lf lt R (lf l) l
def sw_C (N : Nat) (isL : Nat → Bool) (lf lt : Nat → Nat) : Nat → List Nat → Nat → Prop
  | b, [], c => b = c
  | b, l :: r, c => l < N ∧ isL l = true ∧ lf l = b ∧ sw_C N isL lf lt (lt l) r c
def sw_n (V : Nat → Nat) : List Nat → Nat
  | [] => 0
  | l :: r => V l + sw_n V r
theorem sw_pos {n N : Nat} {isL : Nat → Bool} {lf lt R rho : Nat → Nat} (H : sw_H n N isL lf lt R rho) : ∀ k b, rho b ≤ k → b < n → 1 ≤ R b := by
  obtain ⟨h1, h2, h3, h4⟩ := H
  intro k
  induction k with
  | zero =>
    intro b hk hb
    by_cases hb1 : b = 1
    · rw [hb1, h1]; exact Nat.le_refl 1
    · obtain ⟨l, hl, hi, hf⟩ := h4 b hb hb1
      have := (h3 l hl hi).2.2.2
      rw [hf] at this
      omega
  | succ k ih =>
    intro b hk hb
    by_cases hb1 : b = 1
    · rw [hb1, h1]; exact Nat.le_refl 1
    · obtain ⟨l, hl, hi, hf⟩ := h4 b hb hb1
      obtain ⟨_, _, h5, h6⟩ := h3 l hl hi
      rw [hf] at h6
      have h7 := ih (lt l) (by omega) h5
      have h8 := sw_W_at (lt := lt) (R := R) hl hi hf
      rw [h2 b hb hb1]
      omega
theorem sw_lt {n N : Nat} {isL : Nat → Bool} {lf lt R rho : Nat → Nat} (H : sw_H n N isL lf lt R rho) : ∀ p b, b < n → sw_C N isL lf lt b p 1 → sw_n (sw_V isL lf lt R) p < R b := by
  obtain ⟨h1, h2, h3, h4⟩ := H
  intro p
  induction p with
  | nil =>
    intro b hb hc
    have hc : b = 1 := hc
    rw [hc, h1]; exact Nat.lt_succ_self 0
  | cons l r ih =>
    intro b hb hc
    obtain ⟨c1, c2, c3, c4⟩ := hc
    obtain ⟨d1, d2, d3, d4⟩ := h3 l c1 c2
    have h5 := ih (lt l) d3 c4
    have h6 := sw_W_at (lt := lt) (R := R) c1 c2 c3
    rw [h2 b hb (by rw [← c3]; exact d2)]
    show sw_W isL lf lt R (lf l) l + _ < _
    rw [c3]
    omega
theorem sw_uniq {n N : Nat} {isL : Nat → Bool} {lf lt R rho : Nat → Nat} (H : sw_H n N isL lf lt R rho) : ∀ p q b, b < n → sw_C N isL lf lt b p 1 → sw_C N isL lf lt b q 1 → sw_n (sw_V isL lf lt R) p = sw_n (sw_V isL lf lt R) q → p = q := by
  intro p
  induction p with
  | nil =>
    intro q b hb hp hq _
    cases q with
    | nil => rfl
    | cons l r =>
      have hp : b = 1 := hp
      obtain ⟨c1, c2, c3, c4⟩ := hq
      exact absurd (c3.trans hp) (H.2.2.1 l c1 c2).2.1
  | cons l r ih =>
    intro q b hb hp hq hn
    obtain ⟨c1, c2, c3, c4⟩ := hp
    cases q with
    | nil =>
      have hq : b = 1 := hq
      exact absurd (c3.trans hq) (H.2.2.1 l c1 c2).2.1
    | cons l' r' =>
      obtain ⟨e1, e2, e3, e4⟩ := hq
      have hn : sw_W isL lf lt R (lf l) l + sw_n (sw_V isL lf lt R) r = sw_W isL lf lt R (lf l') l' + sw_n (sw_V isL lf lt R) r' := hn
      rw [c3, e3] at hn
      have k1 := sw_lt H r (lt l) (H.2.2.1 l c1 c2).2.2.1 c4
      have k2 := sw_lt H r' (lt l') (H.2.2.1 l' e1 e2).2.2.1 e4
      by_cases h : l < l'
      · have := sw_W_at (lt := lt) (R := R) h c2 c3
        omega
      · by_cases h' : l' < l
        · have := sw_W_at (lt := lt) (R := R) h' e2 e3
          omega
        · have hl : l = l' := by omega
          subst hl
          rw [ih r' (lt l) (H.2.2.1 l c1 c2).2.2.1 c4 e4 (by omega)]
theorem sw_app {N : Nat} {isL : Nat → Bool} {lf lt : Nat → Nat} : ∀ p q b c, sw_C N isL lf lt b (p ++ q) c ↔ ∃ d, sw_C N isL lf lt b p d ∧ sw_C N isL lf lt d q c := by
  intro p
  induction p with
  | nil =>
    intro q b c
    constructor
    · intro h; exact ⟨b, rfl, h⟩
    · rintro ⟨d, h1, h2⟩
      have h1 : b = d := h1
      rw [h1]; exact h2
  | cons l r ih =>
    intro q b c
    constructor
    · rintro ⟨h1, h2, h3, h4⟩
      obtain ⟨d, h5, h6⟩ := (ih q (lt l) c).mp h4
      exact ⟨d, ⟨h1, h2, h3, h5⟩, h6⟩
    · rintro ⟨d, ⟨h1, h2, h3, h5⟩, h6⟩
      exact ⟨h1, h2, h3, (ih q (lt l) c).mpr ⟨d, h5, h6⟩⟩
theorem sw_n_app (V : Nat → Nat) (p q : List Nat) : sw_n V (p ++ q) = sw_n V p + sw_n V q := by
  induction p with
  | nil => show sw_n V q = 0 + _; omega
  | cons l r ih => show V l + sw_n V (r ++ q) = V l + sw_n V r + _; omega
theorem sw_len {n N : Nat} {isL : Nat → Bool} {lf lt R rho : Nat → Nat} (H : sw_H n N isL lf lt R rho) : ∀ p b c, sw_C N isL lf lt b p c → p.length + rho c ≤ rho b := by
  intro p
  induction p with
  | nil =>
    intro b c h
    have h : b = c := h
    rw [h]; show 0 + _ ≤ _; omega
  | cons l r ih =>
    intro b c h
    obtain ⟨h1, h2, h3, h4⟩ := h
    have h5 := ih _ _ h4
    have h6 := (H.2.2.1 l h1 h2).2.2.2
    rw [h3] at h6
    show r.length + 1 + _ ≤ _
    omega
theorem sw_C_in {n N : Nat} {isL : Nat → Bool} {lf lt R rho : Nat → Nat} (H : sw_H n N isL lf lt R rho) : ∀ p b c, b < n → sw_C N isL lf lt b p c → c < n := by
  intro p
  induction p with
  | nil =>
    intro b c hb h
    have h : b = c := h
    rw [← h]; exact hb
  | cons l r ih =>
    intro b c _ h
    obtain ⟨h1, h2, h3, h4⟩ := h
    exact ih _ _ (H.2.2.1 l h1 h2).2.2.1 h4
/-- the list that an array holds in its first places -/
def sw_l (f : Nat → Nat) : Nat → List Nat
  | 0 => []
  | k + 1 => sw_l f k ++ [f k]
theorem sw_l_len (f : Nat → Nat) (k : Nat) : (sw_l f k).length = k := by
  induction k with
  | zero => rfl
  | succ k ih =>
    show (sw_l f k ++ [f k]).length = k + 1
    rw [List.length_append, ih]; rfl
theorem sw_l_congr {f g : Nat → Nat} {k : Nat} (h : ∀ i, i < k → f i = g i) : sw_l f k = sw_l g k := by
  induction k with
  | zero => rfl
  | succ k ih =>
    show sw_l f k ++ [f k] = sw_l g k ++ [g k]
    rw [ih (fun i hi => h i (by omega)), h k (by omega)]
theorem sw_l_up {f : Nat → Nat} {j k v : Nat} (h : k ≤ j) : sw_l (va_up f j v) k = sw_l f k := sw_l_congr (fun i hi => sp_up_n f v (by omega))
theorem sw_l_eq {f g : Nat → Nat} {j k : Nat} : sw_l f k = sw_l g j ↔ k = j ∧ ∀ i, i < k → f i = g i := by
  constructor
  · intro h
    have hk : k = j := by
      have := congrArg List.length h
      rw [sw_l_len, sw_l_len] at this
      exact this
    subst hk
    refine ⟨rfl, ?_⟩
    induction k with
    | zero => intro i hi; omega
    | succ k ih =>
      have h : sw_l f k ++ [f k] = sw_l g k ++ [g k] := h
      obtain ⟨h1, h2⟩ := List.append_inj h (by rw [sw_l_len, sw_l_len])
      intro i hi
      by_cases hik : i = k
      · subst hik
        have h2 : f i :: [] = g i :: [] := h2
        exact (List.cons.inj h2).1
      · exact ih h1 i (by omega)
  · rintro ⟨rfl, h⟩
    exact sw_l_congr h
theorem sw_l_get (f : Nat → Nat) (k i : Nat) : (sw_l f k)[i]? = if i < k then some (f i) else none := by
  induction k with
  | zero => rw [if_neg (by omega)]; rfl
  | succ k ih =>
    show (sw_l f k ++ [f k])[i]? = _
    by_cases hi : i < k
    · rw [List.getElem?_append_left (by rw [sw_l_len]; exact hi), ih, if_pos hi, if_pos (by omega)]
    · rw [List.getElem?_append_right (by rw [sw_l_len]; omega), sw_l_len]
      by_cases hik : i = k
      · subst hik
        rw [Nat.sub_self, if_pos (by omega)]; rfl
      · rw [if_neg (by omega), List.getElem?_eq_none (by show 1 ≤ i - k; omega)]
/-- a row goes on: its first links -/
theorem sw_grow {n N : Nat} {isL : Nat → Bool} {lf lt R rho : Nat → Nat} (H : sw_H n N isL lf lt R rho) {f : Nat → Nat} {k c l : Nat} (hC : sw_C N isL lf lt 0 (sw_l f k) c) (hl : l < N) (hi : isL l = true) (hf : lf l = c) (hz : ∀ x, x < l → ¬ (isL x = true ∧ lf x = c)) : sw_C N isL lf lt 0 (sw_l (va_up f k l) (k + 1)) (lt l) ∧ sw_n (sw_V isL lf lt R) (sw_l (va_up f k l) (k + 1)) = sw_n (sw_V isL lf lt R) (sw_l f k) := by
  have e1 : sw_l (va_up f k l) (k + 1) = sw_l f k ++ [l] := by
    show sw_l (va_up f k l) k ++ [va_up f k l k] = _
    rw [sw_l_up (Nat.le_refl k), sp_up_s]
  rw [e1]
  refine ⟨(sw_app _ _ _ _).mpr ⟨c, hC, hl, hi, hf, rfl⟩, ?_⟩
  rw [sw_n_app]
  show _ + (sw_W isL lf lt R (lf l) l + 0) = _
  rw [hf, sw_W_gap (j := 0) (Nat.zero_le l) (fun x _ hx => hz x hx)]
  show _ + (0 + 0) = _
  omega
/-- the last link of a row gives way to the next one from its block -/
theorem sw_turn {n N : Nat} {isL : Nat → Bool} {lf lt R rho : Nat → Nat} (H : sw_H n N isL lf lt R rho) {f : Nat → Nat} {k c o K : Nat} (hC : sw_C N isL lf lt 0 (sw_l f (k + 1)) c) (hK : sw_n (sw_V isL lf lt R) (sw_l f (k + 1)) + R c = K + 1) (ho : o < N) (hi : isL o = true) (hf : lf o = lf (f k)) (hlt : f k < o) (hz : ∀ x, f k < x → x < o → ¬ (isL x = true ∧ lf x = lf (f k))) : sw_C N isL lf lt 0 (sw_l (va_up f k o) (k + 1)) (lt o) ∧ sw_n (sw_V isL lf lt R) (sw_l (va_up f k o) (k + 1)) = K + 1 := by
  have e1 : sw_l (va_up f k o) (k + 1) = sw_l f k ++ [o] := by
    show sw_l (va_up f k o) k ++ [va_up f k o k] = _
    rw [sw_l_up (Nat.le_refl k), sp_up_s]
  have e2 : sw_l f (k + 1) = sw_l f k ++ [f k] := rfl
  rw [e2] at hC hK
  rw [e1]
  obtain ⟨d, h1, h2, h3, h4, h5⟩ := (sw_app _ _ _ _).mp hC
  have h5 : lt (f k) = c := h5
  refine ⟨(sw_app _ _ _ _).mpr ⟨d, h1, ho, hi, hf.trans h4, rfl⟩, ?_⟩
  rw [sw_n_app] at hK ⊢
  have h6 : sw_n (sw_V isL lf lt R) [f k] = sw_W isL lf lt R (lf (f k)) (f k) + 0 := rfl
  have h7 : sw_n (sw_V isL lf lt R) [o] = sw_W isL lf lt R (lf o) o + 0 := rfl
  rw [h6] at hK
  rw [h7, hf, sw_W_next hlt h3 rfl hz, h5]
  omega
/-- no next one: the row is shortened -/
theorem sw_back {n N : Nat} {isL : Nat → Bool} {lf lt R rho : Nat → Nat} (H : sw_H n N isL lf lt R rho) {f : Nat → Nat} {k c K : Nat} (hC : sw_C N isL lf lt 0 (sw_l f (k + 1)) c) (hK : sw_n (sw_V isL lf lt R) (sw_l f (k + 1)) + R c = K + 1) (hz : ∀ x, f k < x → x < N → ¬ (isL x = true ∧ lf x = lf (f k))) : sw_C N isL lf lt 0 (sw_l f k) (lf (f k)) ∧ sw_n (sw_V isL lf lt R) (sw_l f k) + R (lf (f k)) = K + 1 := by
  have e2 : sw_l f (k + 1) = sw_l f k ++ [f k] := rfl
  rw [e2] at hC hK
  obtain ⟨d, h1, h2, h3, h4, h5⟩ := (sw_app _ _ _ _).mp hC
  have h5 : lt (f k) = c := h5
  obtain ⟨g1, g2, g3, g4⟩ := H.2.2.1 (f k) h2 h3
  refine ⟨by rw [h4]; exact h1, ?_⟩
  rw [sw_n_app] at hK
  have h6 : sw_n (sw_V isL lf lt R) [f k] = sw_W isL lf lt R (lf (f k)) (f k) + 0 := rfl
  rw [h6] at hK
  rw [H.2.1 _ g1 g2, sw_W_next h2 h3 rfl hz, h5]
  omega
/-- the last place below k where p holds, and one more; 0 if there is none -/
def sw_last (p : Nat → Bool) (k : Nat) : Nat := sp_it (fun i z => if p i = true then i + 1 else z) k 0
theorem sw_last_at {p : Nat → Bool} {l k : Nat} (h : l < k) (hp : p l = true) (hz : ∀ x, l < x → x < k → ¬ p x = true) : sw_last p k = l + 1 := by
  induction k with
  | zero => omega
  | succ k ih =>
    show (if p k = true then k + 1 else sw_last p k) = l + 1
    by_cases hlk : l = k
    · subst hlk; rw [if_pos hp]
    · rw [if_neg (hz k (by omega) (by omega))]
      exact ih (by omega) (fun x h1 h2 => hz x h1 (by omega))
theorem sw_last_no {p : Nat → Bool} {k : Nat} (hz : ∀ x, x < k → ¬ p x = true) : sw_last p k = 0 := by
  induction k with
  | zero => rfl
  | succ k ih =>
    show (if p k = true then k + 1 else sw_last p k) = 0
    rw [if_neg (hz k (by omega))]
    exact ih (fun x hx => hz x (by omega))
noncomputable def sp_dec (p : Prop) : Bool := @decide p (Classical.propDecidable p)
theorem sp_dec_iff {p : Prop} : sp_dec p = true ↔ p := by
  unfold sp_dec
  exact @decide_eq_true_iff p (Classical.propDecidable p)
/-- a height for blocks, over which links lead down -/
theorem sw_rho {n m : Nat} {fr tg fin : Nat → Nat} (hn : 2 ≤ n) (hO : sv_O n m fr tg fin) (htg : ∀ e, e < m → tg e < n) : ∃ rho : Nat → Nat, rho 1 = 0 ∧ (∀ b, b < n → rho b + 1 ≤ n) ∧ ∀ e, e < m → rho (tg e) < rho (fr e) := by
  obtain ⟨hlt, hinj, hsur, hlk⟩ := hO
  have hbf : ∀ x, ¬ ∃ i j, i < j ∧ j < n ∧ fin i = x ∧ fin j = x := by
    rintro x ⟨i, j, h1, h2, h3, h4⟩
    have := hinj i j (by omega) h2 (by rw [h3, h4])
    omega
  refine ⟨fun b => if b = 1 then 0 else 1 + sp_cnt (fun x => sp_dec (x ≠ 1 ∧ ∃ i j, i < j ∧ j < n ∧ fin i = x ∧ fin j = b)) n, if_pos rfl, fun b hb => ?_, fun e he => ?_⟩
  · by_cases hb1 : b = 1
    · show (if b = 1 then 0 else _) + 1 ≤ n
      rw [if_pos hb1]; omega
    · show (if b = 1 then 0 else _) + 1 ≤ n
      rw [if_neg hb1]
      have h1 := sp_cnt_lt (p := fun x => sp_dec (x ≠ 1 ∧ ∃ i j, i < j ∧ j < n ∧ fin i = x ∧ fin j = b)) (q := fun x => decide (x ≠ 1)) (k := n) (j := b) (fun i _ hi => by
        have := sp_dec_iff.mp hi
        exact decide_eq_true this.1) hb (decide_eq_true hb1) (fun hc => hbf b (sp_dec_iff.mp hc).2)
      have h2 := sp_cnt_lt (p := fun x => decide (x ≠ 1)) (q := fun _ => true) (k := n) (j := 1) (fun _ _ _ => rfl) (by omega) rfl (by decide)
      rw [sp_cnt_true] at h2
      omega
  · have hf1 := (hlk e he).1
    show (if tg e = 1 then 0 else _) < (if fr e = 1 then 0 else _)
    rw [if_neg hf1]
    by_cases ht1 : tg e = 1
    · rw [if_pos ht1]; omega
    · rw [if_neg ht1]
      rcases (hlk e he).2 with h | ⟨i, j, hij, hj, hi1, hj1⟩
      · exact absurd h ht1
      · have h1 := sp_cnt_lt (p := fun x => sp_dec (x ≠ 1 ∧ ∃ i j, i < j ∧ j < n ∧ fin i = x ∧ fin j = tg e)) (q := fun x => sp_dec (x ≠ 1 ∧ ∃ i j, i < j ∧ j < n ∧ fin i = x ∧ fin j = fr e)) (k := n) (j := tg e) (fun x _ hx => by
          obtain ⟨hx1, a, c, hac, hcn, hfa, hfc⟩ := sp_dec_iff.mp hx
          have hci : c = i := hinj c i hcn (by omega) (by rw [hfc, hi1])
          exact sp_dec_iff.mpr ⟨hx1, a, j, by omega, hj, hfa, hj1⟩) (htg e he) (sp_dec_iff.mpr ⟨ht1, i, j, hij, hj, hi1, hj1⟩) (fun hc => hbf _ (sp_dec_iff.mp hc).2)
        omega
/-! the links of a graph: an edge's own one (a back edge's END) has the edge's number, a START 24 more -/
def sl_is (m : Nat) (bk : Nat → Bool) (l : Nat) : Bool := if l < 24 then decide (l < m) else decide (l - 24 < m) && bk (l - 24)
def sl_f (fr : Nat → Nat) (l : Nat) : Nat := if l < 24 then fr l else 0
def sl_t (tg to : Nat → Nat) (l : Nat) : Nat := if l < 24 then tg l else to (l - 24)
/-- the rows that begin with a START of the first e edges -/
def sl_S (to : Nat → Nat) (bk : Nat → Bool) (R : Nat → Nat) (e : Nat) : Nat := sp_sum (fun x => if bk x = true then R (to x) else 0) e
def sl_R (m : Nat) (to : Nat → Nat) (bk : Nat → Bool) (R : Nat → Nat) (b : Nat) : Nat := if b = 0 then R 0 + sl_S to bk R m else R b
theorem sl_low {m : Nat} {fr tg to R : Nat → Nat} {bk : Nat → Bool} (hm : m ≤ 24) (htg : ∀ e, e < m → tg e ≠ 0) {b l : Nat} (hl : l ≤ m) : sw_W (sl_is m bk) (sl_f fr) (sl_t tg to) (sl_R m to bk R) b l = sv_W fr tg R b l := by
  refine sp_sum_congr (fun x hx => ?_)
  have h1 : sl_is m bk x = true := by
    unfold sl_is
    rw [if_pos (by omega)]
    exact decide_eq_true (by omega)
  have h2 : sl_f fr x = fr x := if_pos (by omega)
  have h3 : sl_t tg to x = tg x := if_pos (by omega)
  have h4 : sl_R m to bk R (tg x) = R (tg x) := if_neg (htg x (by omega))
  rw [h1, h2, h3, h4]
  by_cases hf : fr x = b
  · rw [if_pos ⟨rfl, hf⟩, if_pos hf]
  · rw [if_neg (fun hc => hf hc.2), if_neg hf]
theorem sl_mid {m : Nat} {fr tg to R : Nat → Nat} {bk : Nat → Bool} (hm : m ≤ 24) (htg : ∀ e, e < m → tg e ≠ 0) {b l : Nat} (h1 : m ≤ l) (h2 : l ≤ 24) : sw_W (sl_is m bk) (sl_f fr) (sl_t tg to) (sl_R m to bk R) b l = sv_W fr tg R b m := by
  rw [sw_W_gap h1 (fun x h3 h4 hc => ?_), sl_low hm htg (Nat.le_refl m)]
  have h5 := hc.1
  unfold sl_is at h5
  rw [if_pos (by omega)] at h5
  have := of_decide_eq_true h5
  omega
theorem sl_S_le {m e : Nat} {to R : Nat → Nat} {bk : Nat → Bool} (h : e ≤ m) : sl_S to bk R e ≤ sl_S to bk R m := sp_sum_mono h
theorem sl_hi {m : Nat} {fr tg to R : Nat → Nat} {bk : Nat → Bool} (hm : m ≤ 24) (htg : ∀ e, e < m → tg e ≠ 0) (hto : ∀ e, e < m → to e ≠ 0) {b j : Nat} (hj : j ≤ m) : sw_W (sl_is m bk) (sl_f fr) (sl_t tg to) (sl_R m to bk R) b (24 + j) = sv_W fr tg R b m + (if b = 0 then sl_S to bk R j else 0) := by
  induction j with
  | zero =>
    rw [sl_mid hm htg (by omega) (Nat.le_refl 24)]
    by_cases hb : b = 0
    · rw [if_pos hb]; rfl
    · rw [if_neg hb]; rfl
  | succ j ih =>
    show sw_W (sl_is m bk) (sl_f fr) (sl_t tg to) (sl_R m to bk R) b (24 + j) + (if sl_is m bk (24 + j) = true ∧ sl_f fr (24 + j) = b then sl_R m to bk R (sl_t tg to (24 + j)) else 0) = _
    rw [ih (by omega)]
    have h1 : sl_is m bk (24 + j) = bk j := by
      unfold sl_is
      rw [if_neg (by omega), show 24 + j - 24 = j by omega, decide_eq_true (show j < m by omega), Bool.true_and]
    have h2 : sl_f fr (24 + j) = 0 := if_neg (by omega)
    have h3 : sl_t tg to (24 + j) = to j := by
      unfold sl_t
      rw [if_neg (by omega), show 24 + j - 24 = j by omega]
    have h4 : sl_R m to bk R (to j) = R (to j) := if_neg (hto j (by omega))
    have h5 : sl_S to bk R (j + 1) = sl_S to bk R j + (if bk j = true then R (to j) else 0) := rfl
    rw [h1, h2, h3, h4]
    by_cases hb : b = 0
    · rw [if_pos hb, if_pos hb, h5]
      by_cases hk : bk j = true
      · rw [if_pos ⟨hk, hb.symm⟩, if_pos hk]; omega
      · rw [if_neg (fun hc => hk hc.1), if_neg hk]; try omega
    · rw [if_neg hb, if_neg hb, if_neg (fun hc => hb hc.2.symm)]; try omega
theorem sl_all {m : Nat} {fr tg to R : Nat → Nat} {bk : Nat → Bool} (hm : m ≤ 24) (htg : ∀ e, e < m → tg e ≠ 0) (hto : ∀ e, e < m → to e ≠ 0) {b : Nat} : sw_W (sl_is m bk) (sl_f fr) (sl_t tg to) (sl_R m to bk R) b 48 = sv_W fr tg R b m + (if b = 0 then sl_S to bk R m else 0) := by
  rw [← sl_hi hm htg hto (Nat.le_refl m)]
  refine sw_W_gap (by omega) (fun x h1 h2 hc => ?_)
  have h5 := hc.1
  unfold sl_is at h5
  rw [if_neg (by omega)] at h5
  have h6 : decide (x - 24 < m) = false := decide_eq_false (by omega)
  rw [h6, Bool.false_and] at h5
  cases h5
/-- the links of a good graph are links in the sense of the ways -/
theorem sl_H {n m : Nat} {fr tg to fin R V : Nat → Nat} {bk : Nat → Bool} (hn : 2 ≤ n) (hm : m ≤ 24) (hto : ∀ e, e < m → to e < n ∧ to e ≠ 0) (hfr : ∀ e, e < m → fr e < n ∧ fr e ≠ 1) (htg : ∀ e, e < m → tg e < n ∧ tg e ≠ 0) (hO : sv_O n m fr tg fin) (hR : sv_R n m fr tg R V) (hout : ∀ b, b < n → b ≠ 1 → ∃ e, e < m ∧ fr e = b) : ∃ rho : Nat → Nat, rho 1 = 0 ∧ rho 0 = n ∧ (∀ b, b < n → b ≠ 0 → rho b + 1 ≤ n) ∧ sw_H n 48 (sl_is m bk) (sl_f fr) (sl_t tg to) (sl_R m to bk R) rho := by
  obtain ⟨rho, r1, r2, r3⟩ := sw_rho hn hO (fun e he => (htg e he).1)
  obtain ⟨rh, hrh⟩ : ∃ f : Nat → Nat, ∀ b, f b = if b = 0 then n else rho b := ⟨_, fun _ => rfl⟩
  have e0 : ∀ b, b ≠ 0 → rh b = rho b := fun b hb => by rw [hrh, if_neg hb]
  have e1 : rh 0 = n := by rw [hrh, if_pos rfl]
  refine ⟨rh, by rw [e0 1 (by decide)]; exact r1, e1, fun b hb hb0 => by rw [e0 b hb0]; exact r2 b hb, ?_, ?_, ?_, ?_⟩
  · show (if 1 = 0 then _ else R 1) = 1
    rw [if_neg (by decide)]; exact hR.1
  · intro b hb hb1
    rw [sl_all hm (fun e he => (htg e he).2) (fun e he => (hto e he).2), ← hR.2.1 b hb hb1]
    unfold sl_R
    by_cases h0 : b = 0
    · rw [if_pos h0, if_pos h0, h0]
    · rw [if_neg h0, if_neg h0]; rfl
  · intro l hl hi
    by_cases h24 : l < 24
    · have h1 : l < m := by
        unfold sl_is at hi
        rw [if_pos h24] at hi
        exact of_decide_eq_true hi
      have h2 : sl_f fr l = fr l := if_pos h24
      have h3 : sl_t tg to l = tg l := if_pos h24
      rw [h2, h3]
      refine ⟨(hfr l h1).1, (hfr l h1).2, (htg l h1).1, ?_⟩
      rw [e0 _ (htg l h1).2]
      by_cases hf0 : fr l = 0
      · rw [hf0, e1]
        have := r2 (tg l) (htg l h1).1
        omega
      · rw [e0 _ hf0]; exact r3 l h1
    · have h1 : l - 24 < m := by
        unfold sl_is at hi
        rw [if_neg h24] at hi
        by_cases hx : l - 24 < m
        · exact hx
        · rw [decide_eq_false hx, Bool.false_and] at hi; cases hi
      have h2 : sl_f fr l = 0 := if_neg h24
      have h3 : sl_t tg to l = to (l - 24) := if_neg h24
      rw [h2, h3]
      refine ⟨by omega, by decide, (hto _ h1).1, ?_⟩
      rw [e0 _ (hto _ h1).2, e1]
      have := r2 (to (l - 24)) (hto _ h1).1
      omega
  · intro b hb hb1
    obtain ⟨e, he, hf⟩ := hout b hb hb1
    refine ⟨e, by omega, ?_, ?_⟩
    · unfold sl_is
      rw [if_pos (by omega)]
      exact decide_eq_true he
    · rw [show sl_f fr e = fr e from if_pos (by omega)]; exact hf
end
section
/-! pure side: what flows into a set of blocks flows out of it, or was left there (draft of 2026-11-15, not built yet) -/
def sf_sum (f : Nat → Int) : Nat → Int
  | 0 => 0
  | k + 1 => sf_sum f k + f k
theorem sf_sum_congr {f g : Nat → Int} {k : Nat} (h : ∀ i, i < k → f i = g i) : sf_sum f k = sf_sum g k := by
  induction k with
  | zero => rfl
  | succ k ih =>
    show sf_sum f k + f k = sf_sum g k + g k
    rw [ih (fun i hi => h i (by omega)), h k (by omega)]
theorem sf_sum_zero {f : Nat → Int} {k : Nat} (h : ∀ i, i < k → f i = 0) : sf_sum f k = 0 := by
  induction k with
  | zero => rfl
  | succ k ih =>
    show sf_sum f k + f k = 0
    rw [ih (fun i hi => h i (by omega)), h k (by omega)]; rfl
theorem sf_sum_up {f g : Nat → Int} {k j : Nat} (hj : j < k) (h : ∀ i, i < k → i ≠ j → g i = f i) : sf_sum g k = sf_sum f k + (g j - f j) := by
  induction k with
  | zero => omega
  | succ k ih =>
    show sf_sum g k + g k = sf_sum f k + f k + (g j - f j)
    by_cases hjk : j = k
    · subst hjk
      rw [sf_sum_congr (f := g) (g := f) (fun i hi => h i (by omega) (by omega))]
      omega
    · rw [ih (by omega) (fun i hi => h i (by omega)), h k (by omega) (fun hc => hjk hc.symm)]
      omega
theorem sf_sum_add (f g : Nat → Int) (k : Nat) : sf_sum (fun i => f i + g i) k = sf_sum f k + sf_sum g k := by
  induction k with
  | zero => rfl
  | succ k ih =>
    show sf_sum (fun i => f i + g i) k + (f k + g k) = sf_sum f k + f k + (sf_sum g k + g k)
    rw [ih]; omega
theorem sf_sum_sub (f g : Nat → Int) (k : Nat) : sf_sum (fun i => f i - g i) k = sf_sum f k - sf_sum g k := by
  induction k with
  | zero => rfl
  | succ k ih =>
    show sf_sum (fun i => f i - g i) k + (f k - g k) = sf_sum f k + f k - (sf_sum g k + g k)
    rw [ih]; omega
def sf_c (x : Bool) (v : Int) : Int := if x = true then v else 0
theorem sf_c_t (v : Int) : sf_c true v = v := rfl
theorem sf_c_f (v : Int) : sf_c false v = 0 := rfl
/-- C: passes of edges, S: stops at blocks; run: a run is under way, at pl -/
def sf_F (n m : Nat) (fr to : Nat → Nat) (C S : Nat → Int) (run : Bool) (pl : Nat) : Prop := ∀ B : Nat → Bool, B 0 = false → B 1 = false → sf_sum (fun e => sf_c (B (to e)) (C e) - sf_c (B (fr e)) (C e)) m = sf_sum (fun b => sf_c (B b) (S b)) n + sf_c (run && B pl) 1
theorem sf_none {n m : Nat} {fr to : Nat → Nat} {C S : Nat → Int} {pl : Nat} (hC : ∀ e, e < m → C e = 0) (hS : ∀ b, b < n → S b = 0) : sf_F n m fr to C S false pl := by
  intro B _ _
  rw [sf_sum_zero (fun e he => by rw [hC e he]; cases B (to e) <;> cases B (fr e) <;> rfl), sf_sum_zero (fun b hb => by rw [hS b hb]; cases B b <;> rfl)]
  rfl
theorem sf_start {n m : Nat} {fr to : Nat → Nat} {C S : Nat → Int} {pl : Nat} (h : sf_F n m fr to C S false pl) : sf_F n m fr to C S true 0 := by
  intro B h0 h1
  rw [h B h0 h1, h0]
  rfl
theorem sf_pass {n m : Nat} {fr to : Nat → Nat} {C S : Nat → Int} {e0 : Nat} {run : Bool} (he : e0 < m) (h : sf_F n m fr to C S true (fr e0)) (hr : run = true ∨ to e0 = 1) : sf_F n m fr to (va_up C e0 (C e0 + 1)) S run (to e0) := by
  intro B h0 h1
  have h2 := h B h0 h1
  have h3 := sf_sum_up (f := fun e => sf_c (B (to e)) (C e) - sf_c (B (fr e)) (C e)) (g := fun e => sf_c (B (to e)) (va_up C e0 (C e0 + 1) e) - sf_c (B (fr e)) (va_up C e0 (C e0 + 1) e)) (k := m) (j := e0) he (fun i _ hi => by rw [sp_up_n C _ hi])
  simp only [sp_up_s] at h3
  rw [h3, h2]
  have h4 : sf_c (run && B (to e0)) 1 = sf_c (B (to e0)) 1 := by
    rcases hr with hr | hr
    · rw [hr, Bool.true_and]
    · rw [hr, h1, Bool.and_false]
  rw [h4, Bool.true_and]
  cases B (to e0) <;> cases B (fr e0) <;> simp only [sf_c_t, sf_c_f] <;> omega
theorem sf_stop {n m : Nat} {fr to : Nat → Nat} {C S : Nat → Int} {pl : Nat} (hp : pl < n) (h : sf_F n m fr to C S true pl) (x : Nat) : sf_F n m fr to C (va_up S pl (S pl + 1)) false x := by
  intro B h0 h1
  have h3 := sf_sum_up (f := fun b => sf_c (B b) (S b)) (g := fun b => sf_c (B b) (va_up S pl (S pl + 1) b)) (k := n) (j := pl) hp (fun i _ hi => by rw [sp_up_n S _ hi])
  simp only [sp_up_s] at h3
  rw [h B h0 h1, h3, Bool.true_and, Bool.false_and]
  cases B pl <;> simp only [sf_c_t, sf_c_f] <;> omega
/-- the passes of an edge e0 of the tree out of hits outside of it; B: the blocks behind e0 -/
theorem sf_cut {n m : Nat} {fr to : Nat → Nat} {C S H : Nat → Int} {run : Bool} {pl e0 : Nat} {has B : Nat → Bool} (hF : sf_F n m fr to C S run pl) (he : e0 < m) (h0 : B 0 = false) (h1 : B 1 = false) (hh : has e0 = true) (hx : B (fr e0) ≠ B (to e0)) (hB : ∀ e, e < m → has e = true → e ≠ e0 → B (fr e) = B (to e)) (hH : ∀ e, e < m → H e = if has e = true then 0 else C e) : C e0 = if B (to e0) = true then sf_c (run && B pl) 1 + sf_sum (fun b => sf_c (B b) (S b)) n + sf_sum (fun e => sf_c (B (fr e)) (H e) - sf_c (B (to e)) (H e)) m else -(sf_c (run && B pl) 1 + sf_sum (fun b => sf_c (B b) (S b)) n + sf_sum (fun e => sf_c (B (fr e)) (H e) - sf_c (B (to e)) (H e)) m) := by
  have h2 := hF B h0 h1
  have h3 : sf_sum (fun e => sf_c (B (to e)) (C e) - sf_c (B (fr e)) (C e)) m = sf_sum (fun e => (0 - (sf_c (B (fr e)) (H e) - sf_c (B (to e)) (H e))) + (if e = e0 then sf_c (B (to e0)) (C e0) - sf_c (B (fr e0)) (C e0) else 0)) m := by
    refine sf_sum_congr (fun e hem => ?_)
    by_cases hee : e = e0
    · subst hee
      rw [if_pos rfl, hH e hem, if_pos hh]
      cases B (to e) <;> cases B (fr e) <;> simp only [sf_c_t, sf_c_f] <;> omega
    · rw [if_neg hee, hH e hem]
      by_cases hhe : has e = true
      · rw [if_pos hhe, hB e hem hhe hee]
        cases B (to e) <;> simp only [sf_c_t, sf_c_f] <;> omega
      · rw [if_neg hhe]
        cases B (to e) <;> cases B (fr e) <;> simp only [sf_c_t, sf_c_f] <;> omega
  have h4 := sf_sum_add (fun e => 0 - (sf_c (B (fr e)) (H e) - sf_c (B (to e)) (H e))) (fun e => if e = e0 then sf_c (B (to e0)) (C e0) - sf_c (B (fr e0)) (C e0) else 0) m
  have h5 := sf_sum_sub (fun _ => 0) (fun e => sf_c (B (fr e)) (H e) - sf_c (B (to e)) (H e)) m
  have h6 := sf_sum_zero (f := fun _ => 0) (k := m) (fun _ _ => rfl)
  have h7 := sf_sum_up (f := fun _ => 0) (g := fun e => if e = e0 then sf_c (B (to e0)) (C e0) - sf_c (B (fr e0)) (C e0) else 0) (k := m) (j := e0) he (fun i _ hi => if_neg hi)
  simp only [if_true, eq_self_iff_true] at h7
  rw [h3, h4, h5, h6, h7, h6] at h2
  cases hbt : B (to e0) <;> cases hbf : B (fr e0) <;> simp only [hbt, hbf, sf_c_t, sf_c_f] at h2 hx ⊢
  · exact absurd rfl hx
  · rw [if_neg (by decide)]; omega
  · rw [if_pos trivial]; omega
  · exact absurd rfl hx
/-- visits of blocks, runs and ends -/
def sf_G (n m : Nat) (to : Nat → Nat) (C S K : Nat → Int) (runs ends : Int) (run : Bool) : Prop := (∀ b, b < n → b ≠ 0 → K b = sf_sum (fun e => sf_c (decide (to e = b)) (C e)) m) ∧ K 0 = runs ∧ K 1 = ends ∧ runs = ends + sf_sum S n + sf_c run 1
theorem sf_G_none {n m : Nat} {to : Nat → Nat} {C S K : Nat → Int} (hn : 2 ≤ n) (hC : ∀ e, e < m → C e = 0) (hS : ∀ b, b < n → S b = 0) (hK : ∀ b, b < n → K b = 0) : sf_G n m to C S K 0 0 false := by
  refine ⟨fun b hb _ => ?_, hK 0 (by omega), hK 1 (by omega), ?_⟩
  · rw [hK b hb, sf_sum_zero (fun e he => by rw [hC e he]; unfold sf_c; split <;> rfl)]
  · rw [sf_sum_zero hS]; rfl
theorem sf_G_start {n m : Nat} {to : Nat → Nat} {C S K : Nat → Int} {runs ends : Int} (h : sf_G n m to C S K runs ends false) : sf_G n m to C S (va_up K 0 (K 0 + 1)) (runs + 1) ends true := by
  obtain ⟨h1, h2, h3, h4⟩ := h
  refine ⟨fun b hb hb0 => ?_, ?_, ?_, ?_⟩
  · rw [sp_up_n K _ hb0]; exact h1 b hb hb0
  · rw [sp_up_s, h2]
  · rw [sp_up_n K _ (by decide)]; exact h3
  · rw [h4, sf_c_f, sf_c_t]; omega
theorem sf_G_pass {n m : Nat} {to : Nat → Nat} {C S K : Nat → Int} {runs ends : Int} {e0 : Nat} (he : e0 < m) (ht0 : to e0 ≠ 0) (h : sf_G n m to C S K runs ends true) : sf_G n m to (va_up C e0 (C e0 + 1)) S (va_up K (to e0) (K (to e0) + 1)) runs (if to e0 = 1 then ends + 1 else ends) (decide (to e0 ≠ 1)) := by
  obtain ⟨h1, h2, h3, h4⟩ := h
  refine ⟨fun b hb hb0 => ?_, ?_, ?_, ?_⟩
  · have h5 := sf_sum_up (f := fun e => sf_c (decide (to e = b)) (C e)) (g := fun e => sf_c (decide (to e = b)) (va_up C e0 (C e0 + 1) e)) (k := m) (j := e0) he (fun i _ hi => by rw [sp_up_n C _ hi])
    simp only [sp_up_s] at h5
    rw [h5, ← h1 b hb hb0]
    by_cases hbt : b = to e0
    · rw [hbt, sp_up_s, decide_eq_true rfl, sf_c_t, sf_c_t]; omega
    · rw [sp_up_n K _ hbt, decide_eq_false (fun hc => hbt hc.symm), sf_c_f, sf_c_f]; omega
  · rw [sp_up_n K _ (fun hc => ht0 hc.symm)]; exact h2
  · by_cases h6 : to e0 = 1
    · rw [if_pos h6, h6, sp_up_s, h3]
    · rw [if_neg h6, sp_up_n K _ (fun hc => h6 hc.symm)]; exact h3
  · by_cases h6 : to e0 = 1
    · rw [if_pos h6, decide_eq_false (fun hc => hc h6), sf_c_f, h4, sf_c_t]; omega
    · rw [if_neg h6, decide_eq_true h6]; exact h4
theorem sf_G_stop {n m : Nat} {to : Nat → Nat} {C S K : Nat → Int} {runs ends : Int} {pl : Nat} (hp : pl < n) (h : sf_G n m to C S K runs ends true) : sf_G n m to C (va_up S pl (S pl + 1)) K runs ends false := by
  obtain ⟨h1, h2, h3, h4⟩ := h
  refine ⟨h1, h2, h3, ?_⟩
  have h5 := sf_sum_up (f := S) (g := va_up S pl (S pl + 1)) (k := n) (j := pl) hp (fun i _ hi => sp_up_n S _ hi)
  rw [sp_up_s] at h5
  rw [h5, h4, sf_c_f, sf_c_t]; omega
end
section
/-! pure side: no back edge leads to EXIT; the reference's search beside the system's (draft of 2026-11-15, not built yet) -/
def ss_K (m : Nat) (fr to met look st : Nat → Nat) (h : Nat) (bk : Nat → Bool) : Prop := (∀ i, i + 1 < h → st i ≠ 1) ∧ ∀ e, e < m → ss_L fr met look e → bk e = true → to e ≠ 1
theorem ss_L_pop {m : Nat} {fr met look : Nat → Nat} {b : Nat} (hb1 : met b = 1) (hall : ∀ e, e < m → fr e = b → e < look b) {e : Nat} (he : e < m) (hl : ss_L fr (va_up met b 2) look e) : ss_L fr met look e := by
  by_cases hf : fr e = b
  · right; rw [hf]; exact ⟨hb1, hall e he hf⟩
  · simpa only [ss_L, sp_up_n met 2 hf] using hl
theorem ss_L_see {fr met look : Nat → Nat} {b e0 : Nat} (hb1 : met b = 1) (hno : ∀ e, look b ≤ e → e < e0 → fr e ≠ b) {e : Nat} (hl : ss_L fr met (va_up look b (e0 + 1)) e) : ss_L fr met look e ∨ e = e0 := by
  by_cases hf : fr e = b
  · simp only [ss_L, hf, sp_up_s, hb1] at hl ⊢
    rcases hl with h1 | ⟨-, h1⟩
    · omega
    · by_cases h2 : e < look b
      · left; right; exact ⟨trivial, h2⟩
      · by_cases h3 : e = e0
        · right; exact h3
        · exact absurd hf (hno e (by omega) (by omega))
  · left
    simpa only [ss_L, sp_up_n look (e0 + 1) hf] using hl
theorem ss_L_push {fr met look : Nat → Nat} {b e0 t : Nat} (hb1 : met b = 1) (hm : met t = 0) (hno : ∀ e, look b ≤ e → e < e0 → fr e ≠ b) {e : Nat} (hl : ss_L fr (va_up met t 1) (va_up (va_up look b (e0 + 1)) t 0) e) : ss_L fr met look e ∨ e = e0 := by
  by_cases hft : fr e = t
  · simp only [ss_L, hft, sp_up_s] at hl
    rcases hl with h1 | ⟨-, h1⟩ <;> omega
  · have hl2 : ss_L fr met (va_up look b (e0 + 1)) e := by
      simpa only [ss_L, sp_up_n met 1 hft, sp_up_n (va_up look b (e0 + 1)) 0 hft] using hl
    exact ss_L_see hb1 hno hl2
/-- what a step does, case by case -/
theorem ss_cases {n m : Nat} {fr to : Nat → Nat} {met look st : Nat → Nat} {h : Nat} {bk : Nat → Bool} {fin : Nat → Nat} {k : Nat} (I : ss_I n m fr to met look st (h + 1) bk fin k) : ∃ b e, st h = b ∧ b < n ∧ met b = 1 ∧ sg_nx fr b (m - look b) (look b) = e ∧ look b ≤ e ∧ (∀ x, look b ≤ x → x < e → fr x ≠ b) ∧ ((m ≤ e ∧ (∀ x, x < m → fr x = b → x < look b)) ∨ (e < m ∧ fr e = b)) := by
  have hst := I.1 h (by omega)
  have hlm := I.2.2.2.2.2.2.1 (st h) hst.1 hst.2
  obtain ⟨x1, x2, x3, x4⟩ := sg_nx_spec fr (st h) (m - look (st h)) (look (st h))
  refine ⟨st h, _, rfl, hst.1, hst.2, rfl, x1, x3, ?_⟩
  generalize sg_nx fr (st h) (m - look (st h)) (look (st h)) = e at x1 x2 x3 x4
  by_cases hc : m ≤ e
  · left
    refine ⟨hc, fun x hx hf => ?_⟩
    by_cases hl : x < look (st h)
    · exact hl
    · exact absurd hf (x3 x (by omega) (by omega))
  · right
    exact ⟨by omega, x4 (by omega)⟩
theorem ss_K_keep {n m : Nat} {fr to : Nat → Nat} (hn : 2 ≤ n) (hfr : ∀ e, e < m → fr e ≠ 1) (s : ss_T) (hJ : ss_J n m fr to s) (hK : ss_K m fr to s.1 s.2.1 s.2.2.1 s.2.2.2.1 s.2.2.2.2.1) : ss_K m fr to (ss_step fr to m s).1 (ss_step fr to m s).2.1 (ss_step fr to m s).2.2.1 (ss_step fr to m s).2.2.2.1 (ss_step fr to m s).2.2.2.2.1 := by
  obtain ⟨met, look, st, h, bk, fin, k⟩ := s
  have I : ss_I n m fr to met look st h bk fin k := hJ
  have hK : ss_K m fr to met look st h bk := hK
  cases h with
  | zero => rw [ss_step_0]; exact hK
  | succ h =>
    obtain ⟨b, e0, hb, hbn, hb1, he, hlo, hno, hcase⟩ := ss_cases I
    rw [ss_step_eq fr to m met look st h bk fin k b e0 hb he]
    obtain ⟨k1, k2⟩ := hK
    rcases hcase with ⟨hc, hall⟩ | ⟨hc, hf0⟩
    · rw [if_pos hc]
      exact ⟨fun i hi => k1 i (by have : i + 1 < h := hi; omega), fun e he2 hl hbk => k2 e he2 (ss_L_pop hb1 hall he2 hl) hbk⟩
    · rw [if_neg (by omega)]
      have hb01 : b ≠ 1 := by rw [← hf0]; exact hfr e0 hc
      by_cases hm : met (to e0) = 0
      · rw [if_pos hm]
        refine ⟨fun i hi => ?_, fun e he2 hl hbk => ?_⟩
        · have hi : i + 1 < h + 2 := hi
          show va_up st (h + 1) (to e0) i ≠ 1
          rw [sp_up_n st _ (by omega)]
          by_cases hih : i = h
          · rw [hih, hb]; exact hb01
          · exact k1 i (by omega)
        · have hbk : va_up bk e0 false e = true := hbk
          rcases ss_L_push hb1 hm hno hl with h1 | h1
          · by_cases h2 : e = e0
            · rw [h2, sp_up_s] at hbk; cases hbk
            · rw [sp_up_n bk _ h2] at hbk; exact k2 e he2 h1 hbk
          · rw [h1, sp_up_s] at hbk; cases hbk
      · rw [if_neg hm]
        refine ⟨k1, fun e he2 hl hbk => ?_⟩
        have hbk : va_up bk e0 (decide (met (to e0) = 1)) e = true := hbk
        by_cases h2 : e = e0
        · rw [h2, sp_up_s] at hbk
          have h3 := of_decide_eq_true hbk
          rw [h2]
          intro h4
          rw [h4] at h3
          obtain ⟨i, hi, hs⟩ := I.2.2.1 1 (by omega) h3
          by_cases hih : i = h
          · rw [hih, hb] at hs; exact hb01 hs
          · exact k1 i (by omega) hs
        · rw [sp_up_n bk _ h2] at hbk
          rcases ss_L_see hb1 hno hl with h1 | h1
          · exact k2 e he2 h1 hbk
          · exact absurd h1 h2
theorem ss_run_K {n m : Nat} {fr to : Nat → Nat} (hn : 2 ≤ n) (hfr : ∀ e, e < m → fr e ≠ 1) (ht : ∀ e, e < m → fr e < n ∧ to e < n) {s : ss_T} (hJ : ss_J n m fr to s) (hK : ss_K m fr to s.1 s.2.1 s.2.2.1 s.2.2.2.1 s.2.2.2.2.1) (i : Nat) : ss_K m fr to (ss_run fr to m i s).1 (ss_run fr to m i s).2.1 (ss_run fr to m i s).2.2.1 (ss_run fr to m i s).2.2.2.1 (ss_run fr to m i s).2.2.2.2.1 := by
  induction i with
  | zero => exact hK
  | succ i ih => exact ss_K_keep hn hfr _ (ss_run_J ht hJ i).1 ih
/-- the reference's search: met, next edges, path, its height, back -/
abbrev sq_T : Type := (Nat → Nat) × (Nat → Nat) × (Nat → Nat) × Nat × (Nat → Bool)
def sq_step (fr to : Nat → Nat) (m : Nat) : sq_T → sq_T := fun r => match r with
  | (met, nx, st, h, bk) =>
    if h = 0 then (met, nx, st, h, bk)
    else if m ≤ sg_nx fr (st (h - 1)) (m - nx (st (h - 1))) (nx (st (h - 1))) then (va_up met (st (h - 1)) 2, va_up nx (st (h - 1)) (sg_nx fr (st (h - 1)) (m - nx (st (h - 1))) (nx (st (h - 1))) + 1), st, h - 1, bk)
    else if met (to (sg_nx fr (st (h - 1)) (m - nx (st (h - 1))) (nx (st (h - 1))))) = 0 then
      (va_up met (to (sg_nx fr (st (h - 1)) (m - nx (st (h - 1))) (nx (st (h - 1))))) 1, va_up nx (st (h - 1)) (sg_nx fr (st (h - 1)) (m - nx (st (h - 1))) (nx (st (h - 1))) + 1), va_up st h (to (sg_nx fr (st (h - 1)) (m - nx (st (h - 1))) (nx (st (h - 1))))), h + 1, va_up bk (sg_nx fr (st (h - 1)) (m - nx (st (h - 1))) (nx (st (h - 1)))) false)
    else (met, va_up nx (st (h - 1)) (sg_nx fr (st (h - 1)) (m - nx (st (h - 1))) (nx (st (h - 1))) + 1), st, h, va_up bk (sg_nx fr (st (h - 1)) (m - nx (st (h - 1))) (nx (st (h - 1)))) (decide (met (to (sg_nx fr (st (h - 1)) (m - nx (st (h - 1))) (nx (st (h - 1))))) = 1)))
theorem sq_step_eq (fr to : Nat → Nat) (m : Nat) (met nx st : Nat → Nat) (h : Nat) (bk : Nat → Bool) (b e : Nat) (hb : st h = b) (he : sg_nx fr b (m - nx b) (nx b) = e) : sq_step fr to m (met, nx, st, h + 1, bk) = if m ≤ e then (va_up met b 2, va_up nx b (e + 1), st, h, bk) else if met (to e) = 0 then (va_up met (to e) 1, va_up nx b (e + 1), va_up st (h + 1) (to e), h + 2, va_up bk e false) else (met, va_up nx b (e + 1), st, h + 1, va_up bk e (decide (met (to e) = 1))) := by
  subst hb
  subst he
  rfl
theorem sq_step_0 (fr to : Nat → Nat) (m : Nat) (met nx st : Nat → Nat) (bk : Nat → Bool) : sq_step fr to m (met, nx, st, 0, bk) = (met, nx, st, 0, bk) := by
  rfl
def sq_R (n m : Nat) (fr : Nat → Nat) (s : ss_T) (r : sq_T) : Prop := (∀ b, b < n → r.1 b = s.1 b) ∧ r.2.2.2.1 = s.2.2.2.1 ∧ (∀ i, i < s.2.2.2.1 → r.2.2.1 i = s.2.2.1 i) ∧ (∀ b, b < n → s.1 b = 1 → r.2.1 b = s.2.1 b) ∧ (∀ b, b < n → s.1 b = 0 → r.2.1 b = 0) ∧ ∀ e, e < m → ss_L fr s.1 s.2.1 e → r.2.2.2.2 e = s.2.2.2.2.1 e
theorem sq_keep {n m : Nat} {fr to : Nat → Nat} (ht : ∀ e, e < m → fr e < n ∧ to e < n) (s : ss_T) (r : sq_T) (hJ : ss_J n m fr to s) (hR : sq_R n m fr s r) : sq_R n m fr (ss_step fr to m s) (sq_step fr to m r) := by
  obtain ⟨met, look, st, h, bk, fin, k⟩ := s
  obtain ⟨met', nx, st', h', bk'⟩ := r
  have I : ss_I n m fr to met look st h bk fin k := hJ
  obtain ⟨r1, r2, r3, r4, r5, r6⟩ := hR
  have r1 : ∀ b, b < n → met' b = met b := r1
  have r2 : h' = h := r2
  have r3 : ∀ i, i < h → st' i = st i := r3
  have r4 : ∀ b, b < n → met b = 1 → nx b = look b := r4
  have r5 : ∀ b, b < n → met b = 0 → nx b = 0 := r5
  have r6 : ∀ e, e < m → ss_L fr met look e → bk' e = bk e := r6
  subst r2
  cases h' with
  | zero => rw [ss_step_0, sq_step_0]; exact ⟨r1, rfl, r3, r4, r5, r6⟩
  | succ h =>
    obtain ⟨b, e0, hb, hbn, hb1, he, hlo, hno, hcase⟩ := ss_cases I
    have hnx : nx b = look b := r4 b hbn hb1
    rw [ss_step_eq fr to m met look st h bk fin k b e0 hb he, sq_step_eq fr to m met' nx st' h bk' b e0 (by rw [r3 h (by omega)]; exact hb) (by rw [hnx]; exact he)]
    rcases hcase with ⟨hc, hall⟩ | ⟨hc, hf0⟩
    · rw [if_pos hc, if_pos hc]
      refine ⟨fun x hx => ?_, rfl, fun i hi => r3 i (by have : i < h := hi; omega), fun x hx h1 => ?_, fun x hx h1 => ?_, fun e he2 hl => r6 e he2 (ss_L_pop hb1 hall he2 hl)⟩
      · show va_up met' b 2 x = va_up met b 2 x
        by_cases hxb : x = b
        · rw [hxb, sp_up_s, sp_up_s]
        · rw [sp_up_n _ _ hxb, sp_up_n _ _ hxb]; exact r1 x hx
      · have h1 : va_up met b 2 x = 1 := h1
        show va_up nx b (e0 + 1) x = look x
        by_cases hxb : x = b
        · rw [hxb, sp_up_s] at h1; omega
        · rw [sp_up_n _ _ hxb] at h1; rw [sp_up_n _ _ hxb]; exact r4 x hx h1
      · have h1 : va_up met b 2 x = 0 := h1
        show va_up nx b (e0 + 1) x = 0
        by_cases hxb : x = b
        · rw [hxb, sp_up_s] at h1; omega
        · rw [sp_up_n _ _ hxb] at h1; rw [sp_up_n _ _ hxb]; exact r5 x hx h1
    · rw [if_neg (show ¬ m ≤ e0 by omega), if_neg (show ¬ m ≤ e0 by omega)]
      have htn := (ht e0 hc).2
      have hm0 : met' (to e0) = met (to e0) := r1 (to e0) htn
      rw [hm0]
      have hbk0 : ∀ (v : Bool) e, e < m → (ss_L fr met look e ∨ e = e0) → va_up bk' e0 v e = va_up bk e0 v e := by
        intro v e he2 hl
        by_cases h2 : e = e0
        · rw [h2, sp_up_s, sp_up_s]
        · rw [sp_up_n _ _ h2, sp_up_n _ _ h2]
          rcases hl with hl | hl
          · exact r6 e he2 hl
          · exact absurd hl h2
      by_cases hm : met (to e0) = 0
      · rw [if_pos hm, if_pos hm]
        have htb : to e0 ≠ b := fun hc2 => by rw [hc2] at hm; omega
        refine ⟨fun x hx => ?_, rfl, fun i hi => ?_, fun x hx h1 => ?_, fun x hx h1 => ?_, fun e he2 hl => hbk0 false e he2 (ss_L_push hb1 hm hno hl)⟩
        · show va_up met' (to e0) 1 x = va_up met (to e0) 1 x
          by_cases hxb : x = to e0
          · rw [hxb, sp_up_s, sp_up_s]
          · rw [sp_up_n _ _ hxb, sp_up_n _ _ hxb]; exact r1 x hx
        · have hi : i < h + 2 := hi
          show va_up st' (h + 1) (to e0) i = va_up st (h + 1) (to e0) i
          by_cases hih : i = h + 1
          · rw [hih, sp_up_s, sp_up_s]
          · rw [sp_up_n _ _ hih, sp_up_n _ _ hih]; exact r3 i (by omega)
        · have h1 : va_up met (to e0) 1 x = 1 := h1
          show va_up nx b (e0 + 1) x = va_up (va_up look b (e0 + 1)) (to e0) 0 x
          by_cases hxt : x = to e0
          · rw [hxt, sp_up_s, sp_up_n _ _ htb]; exact r5 _ htn hm
          · rw [sp_up_n _ _ hxt] at h1
            rw [sp_up_n _ 0 hxt]
            by_cases hxb : x = b
            · rw [hxb, sp_up_s, sp_up_s]
            · rw [sp_up_n _ _ hxb, sp_up_n _ _ hxb]; exact r4 x hx h1
        · have h1 : va_up met (to e0) 1 x = 0 := h1
          show va_up nx b (e0 + 1) x = 0
          by_cases hxt : x = to e0
          · rw [hxt, sp_up_s] at h1; omega
          · rw [sp_up_n _ _ hxt] at h1
            by_cases hxb : x = b
            · rw [hxb] at h1; omega
            · rw [sp_up_n _ _ hxb]; exact r5 x hx h1
      · rw [if_neg hm, if_neg hm]
        refine ⟨r1, rfl, r3, fun x hx h1 => ?_, fun x hx h1 => ?_, fun e he2 hl => hbk0 _ e he2 (ss_L_see hb1 hno hl)⟩
        · have h1 : met x = 1 := h1
          show va_up nx b (e0 + 1) x = va_up look b (e0 + 1) x
          by_cases hxb : x = b
          · rw [hxb, sp_up_s, sp_up_s]
          · rw [sp_up_n _ _ hxb, sp_up_n _ _ hxb]; exact r4 x hx h1
        · have h1 : met x = 0 := h1
          show va_up nx b (e0 + 1) x = 0
          by_cases hxb : x = b
          · rw [hxb] at h1; omega
          · rw [sp_up_n _ _ hxb]; exact r5 x hx h1
end
section
/-! pure side: rows stay small; the reference's rounds find them (draft of 2026-11-15, not built yet) -/
theorem sp_sum_bound {f : Nat → Nat} {p : Nat → Bool} {M k : Nat} (h : ∀ i, i < k → f i ≤ if p i = true then M else 0) : sp_sum f k ≤ sp_cnt p k * M := by
  induction k with
  | zero => exact Nat.zero_le _
  | succ k ih =>
    have h1 := ih (fun i hi => h i (by omega))
    have h2 := h k (by omega)
    show sp_sum f k + f k ≤ (sp_cnt p k + (if p k = true then 1 else 0)) * M
    by_cases hp : p k = true
    · rw [if_pos hp] at h2 ⊢
      rw [Nat.add_mul, Nat.one_mul]; omega
    · rw [if_neg hp] at h2 ⊢
      rw [Nat.add_zero]; omega
theorem sp_cnt_split {p q r : Nat → Bool} {k : Nat} (h : ∀ i, i < k → (r i = true ↔ p i = true ∨ q i = true)) (hd : ∀ i, i < k → ¬ (p i = true ∧ q i = true)) : sp_cnt r k = sp_cnt p k + sp_cnt q k := by
  induction k with
  | zero => rfl
  | succ k ih =>
    have h1 := ih (fun i hi => h i (by omega)) (fun i hi => hd i (by omega))
    have h2 := h k (by omega)
    have h3 := hd k (by omega)
    show sp_cnt r k + _ = sp_cnt p k + _ + (sp_cnt q k + _)
    by_cases hp : p k = true
    · have hq : ¬ q k = true := fun hq => h3 ⟨hp, hq⟩
      rw [if_pos hp, if_neg hq, if_pos (h2.mpr (Or.inl hp))]; omega
    · by_cases hq : q k = true
      · rw [if_neg hp, if_pos hq, if_pos (h2.mpr (Or.inr hq))]; omega
      · have hr : ¬ r k = true := fun hr => by
          rcases h2.mp hr with h4 | h4
          · exact hp h4
          · exact hq h4
        rw [if_neg hp, if_neg hq, if_neg hr]; omega
theorem sp_le_two_pow (d : Nat) : d ≤ 2 ^ d := Nat.le_of_lt Nat.lt_two_pow_self
theorem sv_bound {n m : Nat} {fr tg fin R : Nat → Nat} (hO : sv_O n m fr tg fin) (h1 : R 1 = 1) (h : ∀ b, b < n → b ≠ 1 → R b = sv_W fr tg R b m) : ∀ b, b < n → R b ≤ 2 ^ m := by
  obtain ⟨hlt, hinj, hsur, hlk⟩ := hO
  have key : ∀ i, i < n → R (fin i) ≤ 2 ^ sp_cnt (fun e => sp_dec (∃ a, a < i + 1 ∧ fin a = fr e)) m := by
    intro i
    induction i using Nat.strongRecOn with
    | _ i ih =>
      intro hi
      by_cases hf : fin i = 1
      · rw [hf, h1]; exact Nat.one_le_two_pow
      · rw [h (fin i) (hlt i hi) hf]
        have hb : sv_W fr tg R (fin i) m ≤ sp_cnt (fun e => decide (fr e = fin i)) m * 2 ^ sp_cnt (fun e => sp_dec (∃ a, a < i ∧ fin a = fr e)) m := by
          refine sp_sum_bound (fun e he => ?_)
          by_cases hfe : fr e = fin i
          · rw [if_pos hfe, if_pos (decide_eq_true hfe)]
            rcases (hlk e he).2 with ht | ⟨a, c, hac, hcn, hfa, hfc⟩
            · rw [ht, h1]; exact Nat.one_le_two_pow
            · have hci : c = i := hinj c i hcn hi (by rw [hfc, hfe])
              rw [← hfa]
              refine Nat.le_trans (ih a (by omega) (by omega)) (Nat.pow_le_pow_right (by decide) ?_)
              refine sp_cnt_mono (fun x _ hx => ?_)
              obtain ⟨a2, h2, h3⟩ := sp_dec_iff.mp hx
              exact sp_dec_iff.mpr ⟨a2, by omega, h3⟩
          · rw [if_neg hfe, if_neg (fun hc => hfe (of_decide_eq_true hc))]; exact Nat.le_refl 0
        have hs := sp_cnt_split (p := fun e => decide (fr e = fin i)) (q := fun e => sp_dec (∃ a, a < i ∧ fin a = fr e)) (r := fun e => sp_dec (∃ a, a < i + 1 ∧ fin a = fr e)) (k := m) (fun e _ => by
            constructor
            · intro hx
              obtain ⟨a2, h2, h3⟩ := sp_dec_iff.mp hx
              by_cases hai : a2 = i
              · left; exact decide_eq_true (by rw [← h3, hai])
              · right; exact sp_dec_iff.mpr ⟨a2, by omega, h3⟩
            · rintro (hx | hx)
              · exact sp_dec_iff.mpr ⟨i, by omega, (of_decide_eq_true hx).symm⟩
              · obtain ⟨a2, h2, h3⟩ := sp_dec_iff.mp hx
                exact sp_dec_iff.mpr ⟨a2, by omega, h3⟩) (fun e _ hx => by
            obtain ⟨h4, h5⟩ := hx
            obtain ⟨a2, h2, h3⟩ := sp_dec_iff.mp h5
            have := hinj a2 i (by omega) hi (by rw [h3, of_decide_eq_true h4])
            omega)
        rw [hs, Nat.pow_add]
        exact Nat.le_trans hb (Nat.mul_le_mul_right _ (sp_le_two_pow _))
  intro b hb
  obtain ⟨i, hi, rfl⟩ := hsur b hb
  exact Nat.le_trans (key i hi) (Nat.pow_le_pow_right (by decide) (sp_cnt_le _ _))
theorem sl_bound {n m : Nat} {to R : Nat → Nat} {bk : Nat → Bool} (hm : m ≤ 24) (hn : 1 ≤ n) (hto : ∀ e, e < m → to e < n) (hR : ∀ b, b < n → R b ≤ 2 ^ m) : ∀ b, b < n → sl_R m to bk R b ≤ 419430400 := by
  have hp : 2 ^ m ≤ 16777216 := Nat.le_trans (Nat.pow_le_pow_right (by decide) hm) (Nat.le_refl (2 ^ 24))
  have hS : sl_S to bk R m ≤ 24 * 16777216 := by
    have h1 := sp_sum_bound (f := fun x => if bk x = true then R (to x) else 0) (p := bk) (M := 16777216) (k := m) (fun e he => by
      by_cases hb : bk e = true
      · rw [if_pos hb, if_pos hb]; exact Nat.le_trans (hR _ (hto e he)) hp
      · rw [if_neg hb, if_neg hb]; exact Nat.le_refl 0)
    have h2 := sp_cnt_le bk m
    have h3 : sp_cnt bk m * 16777216 ≤ 24 * 16777216 := Nat.mul_le_mul_right _ (by omega)
    exact Nat.le_trans h1 h3
  intro b hb
  have h4 := hR b hb
  have h5 := hR 0 (by omega)
  unfold sl_R
  by_cases h0 : b = 0
  · rw [if_pos h0]; omega
  · rw [if_neg h0]; omega
/-- the reference's rounds over rows -/
def sl_rd (n N : Nat) (isL : Nat → Bool) (lf lt : Nat → Nat) (rows : Nat → Nat) : Nat → Nat := sp_it (fun b r => va_up r b (if b = 1 then 1 else sw_W isL lf lt r b N)) n rows
theorem sl_rounds {n N : Nat} {isL : Nat → Bool} {lf lt R rho : Nat → Nat} (H : sw_H n N isL lf lt R rho) (hrho : ∀ b, b < n → rho b ≤ n) : ∀ b, b < n → sp_it (fun _ => sl_rd n N isL lf lt) n (fun b => if b = 1 then 1 else 0) b = R b := by
  have hW : ∀ (rows : Nat → Nat) b r, b < n → b ≠ 1 → rho b ≤ r + 1 → (∀ x, x < n → rho x ≤ r → rows x = R x) → sw_W isL lf lt rows b N = R b := by
    intro rows b r hb hb1 hr hrows
    rw [H.2.1 b hb hb1]
    refine sp_sum_congr (fun l hl => ?_)
    by_cases hc : isL l = true ∧ lf l = b
    · rw [if_pos hc, if_pos hc]
      obtain ⟨g1, g2, g3, g4⟩ := H.2.2.1 l hl hc.1
      rw [hc.2] at g4
      exact hrows _ g3 (by omega)
    · rw [if_neg hc, if_neg hc]
  have key : ∀ x, x < n → rho x ≤ n → sp_it (fun _ => sl_rd n N isL lf lt) n (fun b => if b = 1 then 1 else 0) x = R x := by
    refine sp_it_inv (I := fun r (rows : Nat → Nat) => ∀ x, x < n → rho x ≤ r → rows x = R x) ?_ n ?_
    · intro x hx hr
      by_cases hx1 : x = 1
      · rw [if_pos hx1, hx1, H.1]
      · obtain ⟨l, hl, hi, hf⟩ := H.2.2.2 x hx hx1
        have := (H.2.2.1 l hl hi).2.2.2
        rw [hf] at this
        omega
    · intro r rows _ hrows
      have h2 : (∀ x, x < n → rho x ≤ r → sl_rd n N isL lf lt rows x = R x) ∧ ∀ x, x < n → rho x ≤ r + 1 → sl_rd n N isL lf lt rows x = R x := by
        refine sp_it_inv (I := fun i (rows : Nat → Nat) => (∀ x, x < n → rho x ≤ r → rows x = R x) ∧ ∀ x, x < i → rho x ≤ r + 1 → rows x = R x) ⟨hrows, fun x hx => by omega⟩ n ?_
        intro i rows hi hI
        obtain ⟨i1, i2⟩ := hI
        have hv : rho i ≤ r + 1 → (if i = 1 then 1 else sw_W isL lf lt rows i N) = R i := by
          intro hr
          by_cases h1 : i = 1
          · rw [if_pos h1, h1, H.1]
          · rw [if_neg h1]; exact hW rows i r hi h1 hr i1
        refine ⟨fun x hx hr => ?_, fun x hx hr => ?_⟩
        · by_cases hxi : x = i
          · rw [hxi, sp_up_s]; exact hv (by rw [← hxi]; omega)
          · rw [sp_up_n _ _ hxi]; exact i1 x hx hr
        · by_cases hxi : x = i
          · rw [hxi, sp_up_s]; exact hv (by rw [← hxi]; exact hr)
          · rw [sp_up_n _ _ hxi]; exact i2 x (by omega) hr
      exact h2.2
  intro b hb
  exact key b hb (hrho b hb)
end
section
/-! pure side: trees grown over an order; without back edges; spanning and cuts (draft of 2026-11-15, not built yet) -/
theorem sj_G_congr {A B : Nat → Nat} {k n : Nat} {g g' : Nat → Nat} (h : ∀ b, b < n → g b = g' b) (hG : sj_G A B k n g) : sj_G A B k n g' := by
  intro x y hx hy
  rw [← h x hx, ← h y hy]
  exact hG x y hx hy
def st_g (fr to ord : Nat → Nat) (n i : Nat) (s : (Nat → Nat) × (Nat → Bool)) : (Nat → Nat) × (Nat → Bool) := (sj_join n s.1 (fr (ord i)) (to (ord i)), va_up s.2 (ord i) (decide (s.1 (fr (ord i)) ≠ s.1 (to (ord i)))))
theorem st_grow {n k : Nat} {fr to ord : Nat → Nat} (hn : 2 ≤ n) (hin : ∀ i, i < k → fr (ord i) < n ∧ to (ord i) < n) (hinj : ∀ i j, i < k → j < k → ord i = ord j → i = j) {g0 : Nat → Nat} (hg : ∀ b, b < n → g0 b = b) (has0 : Nat → Bool) :
    sj_G (fun i => fr (ord i)) (fun i => to (ord i)) k n (sp_it (st_g fr to ord n) k (sj_join n g0 0 1, has0)).1 ∧ (∀ x, x < k → ((sp_it (st_g fr to ord n) k (sj_join n g0 0 1, has0)).2 (ord x) = true ↔ sj_T (fun i => fr (ord i)) (fun i => to (ord i)) x)) ∧ ∀ e, (∀ x, x < k → ord x ≠ e) → (sp_it (st_g fr to ord n) k (sj_join n g0 0 1, has0)).2 e = has0 e := by
  have h0 : sj_G (fun i => fr (ord i)) (fun i => to (ord i)) 0 n (sj_join n g0 0 1) := by
    refine sj_G_congr (fun b hb => ?_) (sj_G_0 hn)
    show (if b < n ∧ b = 1 then 0 else b) = (if b < n ∧ g0 b = g0 1 then g0 0 else g0 b)
    rw [hg b hb, hg 1 (by omega), hg 0 (by omega)]
  refine sp_it_inv (I := fun i (s : (Nat → Nat) × (Nat → Bool)) => sj_G (fun i => fr (ord i)) (fun i => to (ord i)) i n s.1 ∧ (∀ x, x < i → (s.2 (ord x) = true ↔ sj_T (fun i => fr (ord i)) (fun i => to (ord i)) x)) ∧ ∀ e, (∀ x, x < i → ord x ≠ e) → s.2 e = has0 e) ⟨h0, fun x hx => by omega, fun e _ => rfl⟩ k ?_
  intro i s hi hs
  obtain ⟨h1, h2, h3⟩ := hs
  refine ⟨sj_G_step hn (fun x hx => hin x (by omega)) h1, fun x hx => ?_, fun e he => ?_⟩
  · show va_up s.2 (ord i) _ (ord x) = true ↔ _
    by_cases hxi : x = i
    · subst hxi
      rw [sp_up_s]
      obtain ⟨g1, g2⟩ := hin x hi
      have g3 := h1 (fr (ord x)) (to (ord x)) g1 g2
      constructor
      · intro hd hc
        exact (of_decide_eq_true hd) (g3.mpr hc)
      · intro hT
        exact decide_eq_true (fun hc => hT (g3.mp hc))
    · rw [sp_up_n _ _ (fun hc => hxi (hinj x i (by omega) hi hc))]
      exact h2 x (by omega)
  · show va_up s.2 (ord i) _ e = has0 e
    rw [sp_up_n _ _ (fun hc => he i (by omega) hc.symm)]
    exact h3 e (fun x hx => he x (by omega))
def st_f (bk : Nat → Bool) (ord : Nat → Nat) (i : Nat) (s : (Nat → Nat) × Nat) : (Nat → Nat) × Nat := if bk (ord i) = true then s else (va_up s.1 s.2 (ord i), s.2 + 1)
theorem st_filter {m : Nat} {bk : Nat → Bool} {ord : Nat → Nat} (hinj : ∀ i j, i < m → j < m → ord i = ord j → i = j) (o0 : Nat → Nat) : (sp_it (st_f bk ord) m (o0, 0)).2 ≤ m ∧ (∀ x, x < (sp_it (st_f bk ord) m (o0, 0)).2 → ∃ i, i < m ∧ ord i = (sp_it (st_f bk ord) m (o0, 0)).1 x ∧ bk (ord i) = false) ∧ (∀ i, i < m → bk (ord i) = false → ∃ x, x < (sp_it (st_f bk ord) m (o0, 0)).2 ∧ (sp_it (st_f bk ord) m (o0, 0)).1 x = ord i) ∧ ∀ x y, x < (sp_it (st_f bk ord) m (o0, 0)).2 → y < (sp_it (st_f bk ord) m (o0, 0)).2 → (sp_it (st_f bk ord) m (o0, 0)).1 x = (sp_it (st_f bk ord) m (o0, 0)).1 y → x = y := by
  have key : ∀ k, k ≤ m → (sp_it (st_f bk ord) k (o0, 0)).2 ≤ k ∧ (∀ x, x < (sp_it (st_f bk ord) k (o0, 0)).2 → ∃ i, i < k ∧ ord i = (sp_it (st_f bk ord) k (o0, 0)).1 x ∧ bk (ord i) = false) ∧ (∀ i, i < k → bk (ord i) = false → ∃ x, x < (sp_it (st_f bk ord) k (o0, 0)).2 ∧ (sp_it (st_f bk ord) k (o0, 0)).1 x = ord i) ∧ ∀ x y, x < (sp_it (st_f bk ord) k (o0, 0)).2 → y < (sp_it (st_f bk ord) k (o0, 0)).2 → (sp_it (st_f bk ord) k (o0, 0)).1 x = (sp_it (st_f bk ord) k (o0, 0)).1 y → x = y := by
    intro k
    induction k with
    | zero =>
      intro _
      exact ⟨Nat.le_refl 0, fun x hx => absurd hx (Nat.not_lt_zero x), fun i hi => absurd hi (Nat.not_lt_zero i), fun x _ hx => absurd hx (Nat.not_lt_zero x)⟩
    | succ k ih =>
      intro hk
      obtain ⟨h1, h2, h3, h4⟩ := ih (by omega)
      have e1 : sp_it (st_f bk ord) (k + 1) (o0, 0) = st_f bk ord k (sp_it (st_f bk ord) k (o0, 0)) := rfl
      rw [e1]
      generalize sp_it (st_f bk ord) k (o0, 0) = s at h1 h2 h3 h4 ⊢
      unfold st_f
      by_cases hb : bk (ord k) = true
      · rw [if_pos hb]
        refine ⟨by omega, fun x hx => ?_, fun i hi hbi => ?_, h4⟩
        · obtain ⟨i, g1, g2, g3⟩ := h2 x hx
          exact ⟨i, by omega, g2, g3⟩
        · have hik : i ≠ k := fun hc => by rw [hc, hb] at hbi; cases hbi
          exact h3 i (by omega) hbi
      · rw [if_neg hb]
        have hbf : bk (ord k) = false := by
          cases h : bk (ord k) with
          | true => exact absurd h hb
          | false => rfl
        refine ⟨by show s.2 + 1 ≤ k + 1; omega, fun x hx => ?_, fun i hi hbi => ?_, fun x y hx hy hxy => ?_⟩
        · have hx : x < s.2 + 1 := hx
          by_cases hxs : x = s.2
          · exact ⟨k, by omega, by rw [hxs]; exact (sp_up_s _ _ _).symm, hbf⟩
          · obtain ⟨i, g1, g2, g3⟩ := h2 x (by omega)
            exact ⟨i, by omega, by rw [g2]; exact (sp_up_n _ _ hxs).symm, g3⟩
        · by_cases hik : i = k
          · exact ⟨s.2, by show s.2 < s.2 + 1; omega, by rw [hik]; exact sp_up_s _ _ _⟩
          · obtain ⟨x, g1, g2⟩ := h3 i (by omega) hbi
            exact ⟨x, by show x < s.2 + 1; omega, by rw [← g2]; exact sp_up_n _ _ (by omega)⟩
        · have hx : x < s.2 + 1 := hx
          have hy : y < s.2 + 1 := hy
          have hxy : va_up s.1 s.2 (ord k) x = va_up s.1 s.2 (ord k) y := hxy
          have no : ∀ z, z < s.2 → s.1 z ≠ ord k := by
            intro z hz hc
            obtain ⟨i, g1, g2, _⟩ := h2 z hz
            have := hinj i k (by omega) (by omega) (by rw [g2, hc])
            omega
          by_cases hxs : x = s.2
          · by_cases hys : y = s.2
            · omega
            · rw [hxs, sp_up_s, sp_up_n _ _ hys] at hxy
              exact absurd hxy.symm (no y (by omega))
          · by_cases hys : y = s.2
            · rw [hys, sp_up_s, sp_up_n _ _ hxs] at hxy
              exact absurd hxy (no x (by omega))
            · rw [sp_up_n _ _ hxs, sp_up_n _ _ hys] at hxy
              exact h4 x y (by omega) (by omega) hxy
  exact key m (Nat.le_refl m)
/-- pairs among which all edges are that are not back join every block with ENTRY -/
theorem st_span {n m k : Nat} {fr to ord : Nat → Nat} {bk : Nat → Bool} (hall : ∀ e, e < m → bk e = false → ∃ x, x < k ∧ ord x = e) (hjoin : ∀ b, b < n → ∀ S : Nat → Bool, (∀ e, e < m → bk e = false → S (fr e) = S (to e)) → S b = S 0) : ∀ b, b < n → sj_C (fun i => fr (ord i)) (fun i => to (ord i)) k b 0 := by
  intro b hb S _ hS
  refine hjoin b hb S (fun e he hbk => ?_)
  obtain ⟨x, hx, ho⟩ := hall e he hbk
  have := hS x hx
  rw [← ho]
  exact this
/-- the cut of an edge of the tree: what is near -/
theorem st_cut {n m cut : Nat} {fr to ord : Nat → Nat} {has : Nat → Bool} (hn : 2 ≤ n) (hok : ∀ e, e < m → fr e < n ∧ to e < n) (hord : ∀ x, x < m → ord x < m) (hsur : ∀ e, e < m → ∃ x, x < m ∧ ord x = e) (hhas : ∀ x, x < m → (has (ord x) = true ↔ sj_T (fun i => fr (ord i)) (fun i => to (ord i)) x)) (hspan : ∀ b, b < n → sj_C (fun i => fr (ord i)) (fun i => to (ord i)) m b 0) (hcm : cut < m) (hcut : has cut = true) : sb_near fr to has cut m n 0 = true ∧ sb_near fr to has cut m n 1 = true ∧ (∀ b, sb_near fr to has cut m n b = true → b < n) ∧ (∀ e, e < m → has e = true → e ≠ cut → sb_near fr to has cut m n (fr e) = sb_near fr to has cut m n (to e)) ∧ sb_near fr to has cut m n (fr cut) ≠ sb_near fr to has cut m n (to cut) := by
  obtain ⟨i, hi, hoi⟩ := hsur cut hcm
  have hT : sj_T (fun i => fr (ord i)) (fun i => to (ord i)) i := (hhas i hi).mp (by rw [hoi]; exact hcut)
  obtain ⟨S, s0, s1, s2⟩ := sj_cut (A := fun i => fr (ord i)) (B := fun i => to (ord i)) m i hi hT
  have hspan2 : ∀ T : Nat → Bool, T 0 = T 1 → (∀ e, e < m → has e = true → T (fr e) = T (to e)) → ∀ b, b < n → T b = T 0 := by
    intro T h0 hT2 b hb
    exact hspan b hb T h0 (sj_span (A := fun i => fr (ord i)) (B := fun i => to (ord i)) h0 (fun j hj hTj => hT2 (ord j) (hord j hj) ((hhas j hj).mpr hTj)))
  have main : ∀ S : Nat → Bool, S 0 = S 1 → S (fr cut) ≠ S (to cut) → (∀ e, e < m → has e = true → e ≠ cut → S (fr e) = S (to e)) → S 0 = false → sb_near fr to has cut m n 0 = true ∧ sb_near fr to has cut m n 1 = true ∧ (∀ b, sb_near fr to has cut m n b = true → b < n) ∧ (∀ e, e < m → has e = true → e ≠ cut → sb_near fr to has cut m n (fr e) = sb_near fr to has cut m n (to e)) ∧ sb_near fr to has cut m n (fr cut) ≠ sb_near fr to has cut m n (to cut) := fun S h01 hx hS h0 => sb_cut hn hok hcm h0 (by rw [← h01]; exact h0) hx hS hspan2
  have s1 : S (fr cut) ≠ S (to cut) := by rw [← hoi]; exact s1
  have s2 : ∀ e, e < m → has e = true → e ≠ cut → S (fr e) = S (to e) := by
    intro e he hh hec
    obtain ⟨j, hj, hoj⟩ := hsur e he
    have := s2 j hj ((hhas j hj).mp (by rw [hoj]; exact hh)) (fun hc => hec (by rw [← hoj, hc, hoi]))
    rw [← hoj]
    exact this
  cases h0 : S 0 with
  | false => exact main S s0 s1 s2 h0
  | true =>
    refine main (fun b => !S b) (by show (!S 0) = (!S 1); rw [s0]) (fun hc => s1 ?_) (fun e he hh hec => by show (!S (fr e)) = (!S (to e)); rw [s2 e he hh hec]) (by show (!S 0) = false; rw [h0]; rfl)
    have hc : (!S (fr cut)) = (!S (to cut)) := hc
    cases ha : S (fr cut) <;> cases hb : S (to cut) <;> simp [ha, hb] at hc ⊢
end
section
/-! pure side: values of STARTs; where a way begins and goes on (draft of 2026-11-15, not built yet) -/
def sv_st (to R : Nat → Nat) (bk : Nat → Bool) (e : Nat) (s : (Nat → Nat) × Nat) : (Nat → Nat) × Nat := if bk e = true then (va_up s.1 e s.2, s.2 + R (to e)) else s
theorem sv_st_spec (to R : Nat → Nat) (bk : Nat → Bool) (m : Nat) (SV : Nat → Nat) (r0 : Nat) : (sp_it (sv_st to R bk) m (SV, r0)).2 = r0 + sl_S to bk R m ∧ ∀ e, e < m → bk e = true → (sp_it (sv_st to R bk) m (SV, r0)).1 e = r0 + sl_S to bk R e := by
  refine sp_it_inv (I := fun i (s : (Nat → Nat) × Nat) => s.2 = r0 + sl_S to bk R i ∧ ∀ e, e < i → bk e = true → s.1 e = r0 + sl_S to bk R e) ⟨rfl, fun e he => by omega⟩ m ?_
  intro i s _ hs
  obtain ⟨h1, h2⟩ := hs
  have h5 : sl_S to bk R (i + 1) = sl_S to bk R i + (if bk i = true then R (to i) else 0) := rfl
  unfold sv_st
  by_cases hb : bk i = true
  · rw [if_pos hb]
    refine ⟨?_, fun e he hbe => ?_⟩
    · show s.2 + R (to i) = _
      rw [h5, if_pos hb, h1]; omega
    · show va_up s.1 i s.2 e = _
      by_cases hei : e = i
      · rw [hei, sp_up_s, h1]
      · rw [sp_up_n _ _ hei]; exact h2 e (by omega) hbe
  · rw [if_neg hb]
    refine ⟨by rw [h5, if_neg hb, h1]; rfl, fun e he hbe => ?_⟩
    have hei : e ≠ i := fun hc => hb (by rw [← hc]; exact hbe)
    exact h2 e (by omega) hbe
/-- the first link of a row with a given number is the last one whose value is not above it -/
theorem sw_pick {n N : Nat} {isL : Nat → Bool} {lf lt R rho : Nat → Nat} (H : sw_H n N isL lf lt R rho) {b l : Nat} {r : List Nat} (hb : b < n) (hC : sw_C N isL lf lt b (l :: r) 1) : sw_V isL lf lt R l ≤ sw_n (sw_V isL lf lt R) (l :: r) ∧ ∀ x, l < x → x < N → isL x = true → lf x = b → ¬ sw_V isL lf lt R x ≤ sw_n (sw_V isL lf lt R) (l :: r) := by
  obtain ⟨c1, c2, c3, c4⟩ := hC
  have h1 := sw_lt H r (lt l) (H.2.2.1 l c1 c2).2.2.1 c4
  have e1 : sw_n (sw_V isL lf lt R) (l :: r) = sw_W isL lf lt R (lf l) l + sw_n (sw_V isL lf lt R) r := rfl
  refine ⟨by rw [e1]; show sw_W isL lf lt R (lf l) l ≤ _; omega, fun x hx hxN hi hf hc => ?_⟩
  have h2 := sw_W_at (isL := isL) (lf := lf) (lt := lt) (R := R) (b := b) hx c2 c3
  have e2 : sw_V isL lf lt R x = sw_W isL lf lt R b x := by show sw_W isL lf lt R (lf x) x = _; rw [hf]
  rw [e1, e2, c3] at hc
  omega
end
section
/-! words for contracts; loops -/
abbrev zTy (cI cZ : ClassId) : List (ClassId × FieldType) := [(cI, .int), (cZ, .boolean)]
theorem z_met2 {l : Launch} {y : MethodName} {wy wy' : List Cond} {rm : Room} {D : va_G} {cl : List vw_C} {tys : List (ClassId × FieldType)} {NW : List (String × Nat × MethodName × String)} {mc ms : Nat} {av : List Value} {wc : va_W} {E : Option Value → va_W → Prop} (cc : ByteArray) (nL : Nat) (ret : Option FieldType) (hy : plainName y.cls = true) (hw : wy = Cond.code y cc nL ret :: wy') (hav : (lg_sl av).length ≤ nL) (hcat : (av.all fun v => v.category == 1) = true)
    (body : ∀ Z : zF, zX Z l rm D cl tys NW cc nL y.cls wy mc ms ret y.name E → Z 0 0 0 (av.map some ++ List.replicate (nL - av.length) none) [] wc) : zM l y wy rm D cl tys NW mc ms av wc E := z_met cc nL ret hy hw hav (fun v hv => by simpa using List.all_eq_true.mp hcat v hv) body
theorem zloop {P : Nat → Prop} (N : Nat) (h : ∀ i, i ≤ N → (i < N → P (i + 1)) → P i) (i : Nat) (hi : i ≤ N) : P i := by
  obtain ⟨k, hk⟩ : ∃ k, N = i + k := ⟨N - i, by omega⟩
  induction k generalizing i with
  | zero => exact h i hi (fun hc => by omega)
  | succ k ih => exact h i hi (fun hc => ih (i + 1) (by omega) (by omega))
def zl_le : List (Option Value) → List (Option Value) → Prop
  | [], _ => True
  | none :: r, s => zl_le r s.tail
  | some v :: r, s => s.head? = some (some v) ∧ zl_le r s.tail
theorem zl_le_get : ∀ (a b : List (Option Value)), zl_le a b → ∀ (i : Nat) (v : Value), a[i]? = some (some v) → b[i]? = some (some v) := by
  intro a
  induction a with
  | nil => intro b _ i v h; simp at h
  | cons o r ih =>
    intro b hb i v h
    have ht : zl_le r b.tail := by
      cases o with
      | none => exact hb
      | some w => exact hb.2
    cases i with
    | zero =>
      have h1 : some o = some (some v) := h
      cases h1
      rw [← List.head?_eq_getElem?]
      exact hb.1
    | succ i =>
      have h2 := ih b.tail ht i v (by simpa using h)
      rw [List.getElem?_tail] at h2
      exact h2
theorem z_le {Z : zF} {l : Launch} {R : Room} {D : va_G} {cl : List vw_C} {tys : List (ClassId × FieldType)} {NW : List (String × Nat × MethodName × String)} {cc : ByteArray} {nL : Nat} {own : String} {Ts : List Cond} {mc ms : Nat} {ret : Option FieldType} {nm : String} {E : Option Value → va_W → Prop} {k j pc : Nat} {lv2 : List (Option Value)} {st : List Value} {ws : va_W} (hX : zX Z l R D cl tys NW cc nL own Ts mc ms ret nm E) (lv : List (Option Value)) (h : zl_le lv lv2) (kk : Z k j pc lv st ws) : Z k j pc lv2 st ws := z_less hX lv2 (zl_le_get lv lv2 h) kk
/-- an edge's number, or -1 -/
def zE (m e : Nat) : Int32 := if e < m then nI e else -1
theorem zE_in {m e : Nat} (h : e < m) : zE m e = nI e := if_pos h
theorem zE_out {m e : Nat} (h : m ≤ e) : zE m e = -1 := if_neg (by omega)
def zin (x : Int32) (n : Nat) : Bool := decide (¬ x < 0 ∧ ¬ nI n ≤ x)
theorem zin_lt {x : Int32} {n : Nat} (h : x < 0) : zin x n = false := decide_eq_false (fun hc => hc.1 h)
theorem zin_ge {x : Int32} {n : Nat} (h : nI n ≤ x) : zin x n = false := decide_eq_false (fun hc => hc.2 h)
theorem zin_in {x : Int32} {n : Nat} (h : ¬ x < 0) (h2 : ¬ nI n ≤ x) : zin x n = true := decide_eq_true ⟨h, h2⟩
theorem zin_of {x : Int32} {n : Nat} (hn : n < 2147483648) (h : zin x n = true) : ∃ i, i < n ∧ x = nI i := by
  obtain ⟨h1, h2⟩ := of_decide_eq_true h
  rcases pk_ix x (n := n) hn with h3 | h3 | h3
  · exact absurd h3 h1
  · exact absurd h3 h2
  · exact h3
theorem zin_nI {i n : Nat} (hi : i < n) (hn : n < 2147483648) : zin (nI i) n = true := zin_in (nI_pos (by omega)) (fun h => by
  have := (nI_leI (a := n) (b := i) hn (by omega)).mp h
  omega)
theorem sg_nx_hit {fr : Nat → Nat} {b m i : Nat} (hi : i < m) (hf : fr i = b) : sg_nx fr b (m - i) i = i := by
  obtain ⟨k, hk⟩ : ∃ k, m - i = k + 1 := ⟨m - i - 1, by omega⟩
  rw [hk]
  show (if fr i = b then i else _) = i
  rw [if_pos hf]
theorem sg_nx_miss {fr : Nat → Nat} {b m i : Nat} (hi : i < m) (hf : ¬ fr i = b) : sg_nx fr b (m - i) i = sg_nx fr b (m - (i + 1)) (i + 1) := by
  obtain ⟨k, hk⟩ : ∃ k, m - i = k + 1 := ⟨m - i - 1, by omega⟩
  rw [hk, show m - (i + 1) = k by omega]
  show (if fr i = b then i else _) = _
  rw [if_neg hf]
theorem sg_nx_end {fr : Nat → Nat} {b m i : Nat} (hi : m ≤ i) : sg_nx fr b (m - i) i = i := by
  rw [show m - i = 0 by omega]
  rfl
/-- the cells of a Graph -/
abbrev wG (cI : ClassId) (g f t n m : Nat) (fr to : Nat → Nat) : va_W := [(g, .inr (0, [.int (nI n), .ref f, .ref t, .int (nI m)])), (f, .inl (cI, 24, .inl (aN fr))), (t, .inl (cI, 24, .inl (aN to)))]
end
section
/-! the t-th edge from a block; bars -/
def zS0 (tg : Nat) (bar : Option Nat) : Nat → Bool := if some tg = bar then (fun _ => false) else (fun i => decide (i = tg))
def zbar : Option Nat → Int32
  | none => -1
  | some b => nI b
theorem zbar_eq {a : Nat} {bar : Option Nat} (ha : a < 2147483648) (hb : ∀ b, bar = some b → b < 2147483648) : nI a = zbar bar ↔ some a = bar := by
  cases bar with
  | none =>
    constructor
    · intro h
      have h1 := nI_pos (n := a) ha
      rw [show nI a = -1 from h] at h1
      exact absurd (by decide) h1
    · intro h; cases h
  | some b =>
    have hb := hb b rfl
    show nI a = nI b ↔ _
    rw [nI_eq ha hb]
    constructor
    · intro h; rw [h]
    · intro h; exact Option.some.inj h
theorem bS_all2 {n : Nat} (h : n < 13) : bS (fun i => decide (i = n)) - nI 1 = bS (fun i => decide (i < n)) := by
  rw [← bS_bit (by omega)]
  exact bS_all n h
/-- how many edges lead from b -/
def sg_deg (fr : Nat → Nat) (b m : Nat) : Nat := sp_cnt (fun e => decide (fr e = b)) m
def sg_pk (fr : Nat → Nat) (b m t : Nat) : Nat := sp_it (fun _ e => sg_nx fr b (m - (e + 1)) (e + 1)) t (sg_nx fr b m 0)
theorem sp_cnt_gap {p : Nat → Bool} {j k : Nat} (h : j ≤ k) (hz : ∀ i, j ≤ i → i < k → p i = false) : sp_cnt p k = sp_cnt p j := by
  induction k with
  | zero => have : j = 0 := by omega
            subst this; rfl
  | succ k ih =>
    by_cases hj : j = k + 1
    · rw [hj]
    · show sp_cnt p k + (if p k = true then 1 else 0) = _
      rw [hz k (by omega) (by omega), ih (by omega) (fun i h1 h2 => hz i h1 (by omega))]; rfl
theorem sp_cnt_le2 {p : Nat → Bool} {j k : Nat} (h : j ≤ k) : sp_cnt p j ≤ sp_cnt p k := by
  induction k with
  | zero => have : j = 0 := by omega
            subst this; exact Nat.le_refl _
  | succ k ih =>
    by_cases hj : j = k + 1
    · rw [hj]; exact Nat.le_refl _
    · have h2 := ih (by omega)
      have h1 : sp_cnt p (k + 1) = sp_cnt p k + (if p k = true then 1 else 0) := rfl
      omega
theorem sg_pk_spec {fr : Nat → Nat} {b m : Nat} : ∀ t, t < sg_deg fr b m → sg_pk fr b m t < m ∧ fr (sg_pk fr b m t) = b ∧ sp_cnt (fun e => decide (fr e = b)) (sg_pk fr b m t) = t := by
  intro t
  induction t with
  | zero =>
    intro ht
    obtain ⟨x1, x2, x3, x4⟩ := sg_nx_spec fr b m 0
    have h1 : sg_nx fr b m 0 < m := by
      by_cases hc : sg_nx fr b m 0 < m
      · exact hc
      · have := sp_cnt_none (p := fun e => decide (fr e = b)) (k := m) (fun i hi => decide_eq_false (x3 i (by omega) (by omega)))
        unfold sg_deg at ht
        omega
    refine ⟨h1, x4 (by omega), ?_⟩
    exact sp_cnt_none (fun i hi => decide_eq_false (x3 i (by omega) hi))
  | succ t ih =>
    intro ht
    obtain ⟨i1, i2, i3⟩ := ih (by omega)
    have e1 : sg_pk fr b m (t + 1) = sg_nx fr b (m - (sg_pk fr b m t + 1)) (sg_pk fr b m t + 1) := rfl
    rw [e1]
    generalize sg_pk fr b m t = e at i1 i2 i3 ⊢
    obtain ⟨x1, x2, x3, x4⟩ := sg_nx_spec fr b (m - (e + 1)) (e + 1)
    have hce : sp_cnt (fun e => decide (fr e = b)) (e + 1) = t + 1 := by
      show sp_cnt _ e + (if decide (fr e = b) = true then 1 else 0) = _
      rw [i3, if_pos (decide_eq_true i2)]
    generalize sg_nx fr b (m - (e + 1)) (e + 1) = e' at x1 x2 x3 x4 ⊢
    have h1 : e' < m := by
      by_cases hc : e' < m
      · exact hc
      · have := sp_cnt_gap (p := fun e => decide (fr e = b)) (j := e + 1) (k := m) (by omega) (fun i h1 h2 => decide_eq_false (x3 i h1 (by omega)))
        unfold sg_deg at ht
        omega
    refine ⟨h1, x4 (by omega), ?_⟩
    rw [sp_cnt_gap (p := fun e => decide (fr e = b)) (j := e + 1) x1 (fun i h1 h2 => decide_eq_false (x3 i h1 h2)), hce]
theorem sg_pk_uniq {fr : Nat → Nat} {b e f : Nat} (he : fr e = b) (hf : fr f = b) (h : sp_cnt (fun x => decide (fr x = b)) e = sp_cnt (fun x => decide (fr x = b)) f) : e = f := by
  have key : ∀ e f, fr e = b → e < f → sp_cnt (fun x => decide (fr x = b)) e < sp_cnt (fun x => decide (fr x = b)) f := by
    intro e f he hlt
    have h1 := sp_cnt_le2 (p := fun x => decide (fr x = b)) (j := e + 1) (k := f) hlt
    have h2 : sp_cnt (fun x => decide (fr x = b)) (e + 1) = sp_cnt (fun x => decide (fr x = b)) e + (if decide (fr e = b) = true then 1 else 0) := rfl
    rw [if_pos (decide_eq_true he)] at h2
    omega
  by_cases h1 : e < f
  · have := key e f he h1; omega
  · by_cases h2 : f < e
    · have := key f e hf h2; omega
    · omega
theorem z_irem_N {a b : Nat} (ha : a < 2147483648) (h0 : 0 < b) (hb : b < 2147483648) : nI a - nI a / nI b * nI b = nI (a % b) := pk_rem ha h0 hb
end
section
/-! bit, isIn, Graph -/
set_option maxHeartbeats 4000000 in
set_option maxRecDepth 100000 in
theorem kA_bit (l : Launch) (D : va_G) (cI cZ : ClassId) (b : Nat) (hb : b < 31) : zM l yA_bit wA_bit rA_bit D zCl (zTy cI cZ) zNW 0 0 [.int (nI b)] ([]) (fun v wn => v = some (.int (bS (fun i => decide (i = b)))) ∧ wn = []) := by
  refine z_met2 cA_bit 1 (some .int) rfl rfl (Nat.le_of_ble_eq_true rfl) rfl (fun Z hX => ?_)
  show Z 0 0 0 [some (.int (nI b))] [] ([])
  refine z_iconst hX (nI 1) dA_bit_0 rfl ?_
  refine z_iload_n hX 0 dA_bit_1 rfl rfl ?_
  refine z_ishl hX dA_bit_2 ?_
  refine z_iret hX rfl rfl rfl rfl dA_bit_3 ?_
  exact ⟨by rw [show (nI 1 : Int32) = 1 from rfl, bS_bit hb], rfl⟩

set_option maxHeartbeats 4000000 in
set_option maxRecDepth 100000 in
theorem kA_isIn (l : Launch) (D : va_G) (cI cZ : ClassId) (S : Nat → Bool) (b : Nat) (hb : b < 31) : zM l yA_isIn wA_isIn rA_isIn D zCl (zTy cI cZ) zNW 0 0 [.int (bS S), .int (nI b)] ([]) (fun v wn => v = some (.int (bN (S b))) ∧ wn = []) := by
  refine z_met2 cA_isIn 2 (some .boolean) rfl rfl (Nat.le_of_ble_eq_true rfl) rfl (fun Z hX => ?_)
  show Z 0 0 0 [some (.int (bS S)), some (.int (nI b))] [] ([])
  refine z_iload_n hX 0 dA_isIn_0 rfl rfl ?_
  refine z_iload_n hX 1 dA_isIn_1 rfl rfl ?_
  refine z_ishr hX dA_isIn_2 ?_
  refine z_iconst hX (nI 1) dA_isIn_3 rfl ?_
  refine z_iand hX dA_isIn_4 ?_
  rw [show (nI 1 : Int32) = 1 from rfl, bS_in S hb]
  refine z_if_eqB hX 12 dA_isIn_5 rfl (fun h5 => ?_) (fun h5 => ?_)
  · refine z_iconst hX (bN false) dA_isIn_12 rfl ?_
    refine z_iret hX rfl (bN_n _) rfl rfl dA_isIn_13 ?_
    exact ⟨by rw [h5], rfl⟩
  · refine z_iconst hX (bN true) dA_isIn_8 rfl ?_
    refine z_goto hX 13 dA_isIn_9 rfl ?_
    refine z_iret hX rfl (bN_n _) rfl rfl dA_isIn_13 ?_
    exact ⟨by rw [h5], rfl⟩

set_option maxHeartbeats 4000000 in
set_option maxRecDepth 100000 in
theorem kG_hasBlock (l : Launch) (D : va_G) (cI cZ : ClassId) (g f t n m : Nat) (fr to : Nat → Nat) (x : Int32) : zM l yG_hasBlock wG_hasBlock rG_hasBlock D zCl (zTy cI cZ) zNW 0 0 [.ref g, .int x] (wG cI g f t n m fr to) (fun v wn => v = some (.int (bN (zin x n))) ∧ wn = wG cI g f t n m fr to) := by
  refine z_met2 cG_hasBlock 2 (some .boolean) rfl rfl (Nat.le_of_ble_eq_true rfl) rfl (fun Z hX => ?_)
  show Z 0 0 0 [some (.ref g), some (.int x)] [] (wG cI g f t n m fr to)
  refine z_iload_n hX 1 dG_hasBlock_0 rfl rfl ?_
  refine z_if_lt hX 16 dG_hasBlock_1 rfl (fun h1 => ?_) (fun h1 => ?_)
  · refine z_iconst hX (bN false) dG_hasBlock_16 rfl ?_
    refine z_iret hX rfl (bN_n _) rfl rfl dG_hasBlock_17 ?_
    exact ⟨by first | rw [zin_lt h1] | rw [zin_ge h9] | rw [zin_in h1 h9], rfl⟩
  · refine z_iload_n hX 1 dG_hasBlock_4 rfl rfl ?_
    refine z_aload_n hX 0 dG_hasBlock_5 rfl rfl ?_
    refine z_get hX 0 0 rfl rfl (zu inG) (by decide) (List.mem_cons_of_mem _ mw_31) rfl dG_hasBlock_6 ?_
    refine z_icmp_ge hX 16 dG_hasBlock_9 rfl (fun h9 => ?_) (fun h9 => ?_)
    · refine z_iconst hX (bN false) dG_hasBlock_16 rfl ?_
      refine z_iret hX rfl (bN_n _) rfl rfl dG_hasBlock_17 ?_
      exact ⟨by first | rw [zin_lt h1] | rw [zin_ge h9] | rw [zin_in h1 h9], rfl⟩
    · refine z_iconst hX (bN true) dG_hasBlock_12 rfl ?_
      refine z_goto hX 17 dG_hasBlock_13 rfl ?_
      refine z_iret hX rfl (bN_n _) rfl rfl dG_hasBlock_17 ?_
      exact ⟨by first | rw [zin_lt h1] | rw [zin_ge h9] | rw [zin_in h1 h9], rfl⟩

set_option maxHeartbeats 4000000 in
set_option maxRecDepth 100000 in
theorem kG_hasEdge (l : Launch) (D : va_G) (cI cZ : ClassId) (g f t n m : Nat) (fr to : Nat → Nat) (x : Int32) : zM l yG_hasEdge wG_hasEdge rG_hasEdge D zCl (zTy cI cZ) zNW 0 0 [.ref g, .int x] (wG cI g f t n m fr to) (fun v wn => v = some (.int (bN (zin x m))) ∧ wn = wG cI g f t n m fr to) := by
  refine z_met2 cG_hasEdge 2 (some .boolean) rfl rfl (Nat.le_of_ble_eq_true rfl) rfl (fun Z hX => ?_)
  show Z 0 0 0 [some (.ref g), some (.int x)] [] (wG cI g f t n m fr to)
  refine z_iload_n hX 1 dG_hasEdge_0 rfl rfl ?_
  refine z_if_lt hX 16 dG_hasEdge_1 rfl (fun h1 => ?_) (fun h1 => ?_)
  · refine z_iconst hX (bN false) dG_hasEdge_16 rfl ?_
    refine z_iret hX rfl (bN_n _) rfl rfl dG_hasEdge_17 ?_
    exact ⟨by first | rw [zin_lt h1] | rw [zin_ge h9] | rw [zin_in h1 h9], rfl⟩
  · refine z_iload_n hX 1 dG_hasEdge_4 rfl rfl ?_
    refine z_aload_n hX 0 dG_hasEdge_5 rfl rfl ?_
    refine z_get hX 0 3 rfl rfl (zu inG) (by decide) (List.mem_cons_of_mem _ mw_50) rfl dG_hasEdge_6 ?_
    refine z_icmp_ge hX 16 dG_hasEdge_9 rfl (fun h9 => ?_) (fun h9 => ?_)
    · refine z_iconst hX (bN false) dG_hasEdge_16 rfl ?_
      refine z_iret hX rfl (bN_n _) rfl rfl dG_hasEdge_17 ?_
      exact ⟨by first | rw [zin_lt h1] | rw [zin_ge h9] | rw [zin_in h1 h9], rfl⟩
    · refine z_iconst hX (bN true) dG_hasEdge_12 rfl ?_
      refine z_goto hX 17 dG_hasEdge_13 rfl ?_
      refine z_iret hX rfl (bN_n _) rfl rfl dG_hasEdge_17 ?_
      exact ⟨by first | rw [zin_lt h1] | rw [zin_ge h9] | rw [zin_in h1 h9], rfl⟩

set_option maxHeartbeats 4000000 in
set_option maxRecDepth 100000 in
theorem kG_nextFrom (l : Launch) (D : va_G) (cI cZ : ClassId) (g f t n m : Nat) (fr to : Nat → Nat) (b low : Nat) (hb : b < 2147483648) (hfr : ∀ e, e < m → fr e < 2147483648) (hm : m ≤ 24) (hlow : low ≤ m) : zM l yG_nextFrom wG_nextFrom rG_nextFrom D zCl (zTy cI cZ) zNW 0 0 [.ref g, .int (nI b), .int (nI low)] (wG cI g f t n m fr to) (fun v wn => v = some (.int (zE m (sg_nx fr b (m - low) low))) ∧ wn = wG cI g f t n m fr to) := by
  refine z_met2 cG_nextFrom 4 (some .int) rfl rfl (Nat.le_of_ble_eq_true rfl) rfl (fun Z hX => ?_)
  show Z 0 0 0 [some (.ref g), some (.int (nI b)), some (.int (nI low)), none] [] (wG cI g f t n m fr to)
  refine z_iload_n hX 2 dG_nextFrom_0 rfl rfl ?_
  refine z_istore_n hX 3 dG_nextFrom_1 rfl (by decide) ?_
  refine zloop (P := fun i => low ≤ i → sg_nx fr b (m - i) i = sg_nx fr b (m - low) low → Z 0 0 2 [some (.ref g), some (.int (nI b)), some (.int (nI low)), some (.int (nI i))] [] (wG cI g f t n m fr to)) m (fun i hi ih hl hs => ?_) low hlow (Nat.le_refl _) rfl
  refine z_iload_n hX 3 dG_nextFrom_2 rfl rfl ?_
  refine z_aload_n hX 0 dG_nextFrom_3 rfl rfl ?_
  refine z_get hX 0 3 rfl rfl (zu inG) (by decide) (List.mem_cons_of_mem _ mw_50) rfl dG_nextFrom_4 ?_
  refine z_icmp_geN hX 28 (by omega) (by omega) dG_nextFrom_7 rfl (fun h7 => ?_) (fun h7 => ?_)
  · refine z_iconst hX (-1) dG_nextFrom_28 rfl ?_
    refine z_iret hX rfl rfl rfl rfl dG_nextFrom_29 ?_
    exact ⟨by rw [← hs, sg_nx_end h7, zE_out h7], rfl⟩
  · refine z_aload_n hX 0 dG_nextFrom_10 rfl rfl ?_
    refine z_get hX 0 1 rfl rfl (zu inG) (by decide) (List.mem_cons_of_mem _ mw_37) rfl dG_nextFrom_11 ?_
    refine z_iload_n hX 3 dG_nextFrom_14 rfl rfl ?_
    refine z_ldN hX 1 0 _ rfl rfl rfl (by omega) (by decide) dG_nextFrom_15 ?_
    refine z_iload_n hX 1 dG_nextFrom_16 rfl rfl ?_
    have hfi := hfr i (by omega)
    refine z_icmp_neN hX 22 (by omega) (by omega) dG_nextFrom_17 rfl (fun h17 => ?_) (fun h17 => ?_)
    · refine z_iinc hX 3 dG_nextFrom_22 rfl (zi_1 _) (by decide) ?_
      refine z_goto hX 2 dG_nextFrom_25 rfl ?_
      exact ih h7 (by omega) (by rw [← hs, sg_nx_miss h7 h17])
    · refine z_iload_n hX 3 dG_nextFrom_20 rfl rfl ?_
      refine z_iret hX rfl rfl rfl rfl dG_nextFrom_21 ?_
      exact ⟨by rw [← hs, sg_nx_hit h7 h17, zE_in h7], rfl⟩
end
section
/-! the rest of Graph -/
set_option maxHeartbeats 4000000 in
set_option maxRecDepth 100000 in
theorem kG_add (l : Launch) (D : va_G) (cI cZ : ClassId) (g f t n m : Nat) (fr to : Nat → Nat) (a b : Nat) (hm : m < 24) : zM l yG_add wG_add rG_add D zCl (zTy cI cZ) zNW 0 0 [.ref g, .int (nI a), .int (nI b)] (wG cI g f t n m fr to) (fun v wn => v = some (.int (nI m)) ∧ wn = wG cI g f t n (m + 1) (va_up fr m a) (va_up to m b)) := by
  refine z_met2 cG_add 3 (some .int) rfl rfl (Nat.le_of_ble_eq_true rfl) rfl (fun Z hX => ?_)
  show Z 0 0 0 [some (.ref g), some (.int (nI a)), some (.int (nI b))] [] (wG cI g f t n m fr to)
  refine z_aload_n hX 0 dG_add_0 rfl rfl ?_
  refine z_get hX 0 1 rfl rfl (zu inG) (by decide) (List.mem_cons_of_mem _ mw_37) rfl dG_add_1 ?_
  refine z_aload_n hX 0 dG_add_4 rfl rfl ?_
  refine z_get hX 0 3 rfl rfl (zu inG) (by decide) (List.mem_cons_of_mem _ mw_50) rfl dG_add_5 ?_
  refine z_iload_n hX 1 dG_add_8 rfl rfl ?_
  refine z_stN hX 1 0 _ _ rfl rfl rfl rfl (by omega) (by decide) dG_add_9 ?_
  refine z_aload_n hX 0 dG_add_10 rfl rfl ?_
  refine z_get hX 0 2 rfl rfl (zu inG) (by decide) (List.mem_cons_of_mem _ mw_43) rfl dG_add_11 ?_
  refine z_aload_n hX 0 dG_add_14 rfl rfl ?_
  refine z_get hX 0 3 rfl rfl (zu inG) (by decide) (List.mem_cons_of_mem _ mw_50) rfl dG_add_15 ?_
  refine z_iload_n hX 2 dG_add_18 rfl rfl ?_
  refine z_stN hX 2 0 _ _ rfl rfl rfl rfl (by omega) (by decide) dG_add_19 ?_
  refine z_aload_n hX 0 dG_add_20 rfl rfl ?_
  refine z_dup hX dG_add_21 rfl ?_
  refine z_get hX 0 3 rfl rfl (zu inG) (by decide) (List.mem_cons_of_mem _ mw_50) rfl dG_add_22 ?_
  refine z_iconst hX (nI 1) dG_add_25 rfl ?_
  refine z_iaddN hX dG_add_26 ?_
  refine z_put hX 0 3 rfl rfl (zu inG) tyG tyG_ok nmG (by decide) (List.mem_cons_of_mem _ mw_50) (Or.inl rfl) rfl rfl rfl (Nat.le_of_ble_eq_true rfl) dG_add_27 ?_
  refine z_aload_n hX 0 dG_add_30 rfl rfl ?_
  refine z_get hX 0 3 rfl rfl (zu inG) (by decide) (List.mem_cons_of_mem _ mw_50) rfl dG_add_31 ?_
  refine z_iconst hX (nI 1) dG_add_34 rfl ?_
  refine z_isubN hX (by omega) dG_add_35 ?_
  refine z_iret hX rfl rfl rfl rfl dG_add_36 ?_
  exact ⟨rfl, rfl⟩

set_option maxHeartbeats 4000000 in
set_option maxRecDepth 100000 in
theorem kG_allBlocks (l : Launch) (D : va_G) (cI cZ : ClassId) (g f t n m : Nat) (fr to : Nat → Nat) (hn : n < 13) : zM l yG_allBlocks wG_allBlocks rG_allBlocks D zCl (zTy cI cZ) zNW 0 0 [.ref g] (wG cI g f t n m fr to) (fun v wn => v = some (.int (bS (fun i => decide (i < n)))) ∧ wn = wG cI g f t n m fr to) := by
  refine z_met2 cG_allBlocks 1 (some .int) rfl rfl (Nat.le_of_ble_eq_true rfl) rfl (fun Z hX => ?_)
  show Z 0 0 0 [some (.ref g)] [] (wG cI g f t n m fr to)
  refine z_aload_n hX 0 dG_allBlocks_0 rfl rfl ?_
  refine z_get hX 0 0 rfl rfl (zu inG) (by decide) (List.mem_cons_of_mem _ mw_31) rfl dG_allBlocks_1 ?_
  refine z_Nr hX (kA_bit l D cI cZ n (by omega)) "SpanningProbes" mw_261 (by decide) mw_1 mw_260 rfl rfl ⟨by decide, by decide, rfl⟩ (by decide) rfl rfl (Nat.le_of_ble_eq_true rfl) dG_allBlocks_4 (by decide) [] rfl rfl (fun v wn hv => ?_)
  obtain ⟨rfl, rfl⟩ := hv
  refine ⟨rfl, ?_⟩
  refine z_iconst hX (nI 1) dG_allBlocks_7 rfl ?_
  refine z_isub hX dG_allBlocks_8 ?_
  refine z_iret hX rfl rfl rfl rfl dG_allBlocks_9 ?_
  exact ⟨by rw [bS_all2 hn], rfl⟩

set_option maxHeartbeats 4000000 in
set_option maxRecDepth 100000 in
theorem kG_blocksReaching (l : Launch) (D : va_G) (cI cZ : ClassId) (g f t n m : Nat) (fr to : Nat → Nat) (tg : Nat) (bar : Option Nat) (hn : 2 ≤ n ∧ n ≤ 12) (hm : m ≤ 24) (hok : ∀ e, e < m → fr e < n ∧ to e < n) (htg : tg < n) (hbar : ∀ b, bar = some b → b < 2147483648) : zM l yG_blocksReaching wG_blocksReaching rG_blocksReaching D zCl (zTy cI cZ) zNW 0 0 [.ref g, .int (nI tg), .int (zbar bar)] (wG cI g f t n m fr to) (fun v wn => v = some (.int (bS (sp_it (fun _ => sr_r fr to bar m) (n - 1) (zS0 tg bar)))) ∧ wn = wG cI g f t n m fr to) := by
  refine z_met2 cG_blocksReaching 6 (some .int) rfl rfl (Nat.le_of_ble_eq_true rfl) rfl (fun Z hX => ?_)
  show Z 0 0 0 [some (.ref g), some (.int (nI tg)), some (.int (zbar bar)), none, none, none] [] (wG cI g f t n m fr to)
  refine z_iload_n hX 1 dG_blocksReaching_0 rfl rfl ?_
  refine z_iload_n hX 2 dG_blocksReaching_1 rfl rfl ?_
  have cut : Z 0 0 13 [some (.ref g), some (.int (nI tg)), some (.int (zbar bar)), none, none, none] [.int (bS (zS0 tg bar))] (wG cI g f t n m fr to) := by
    refine z_istore_n hX 3 dG_blocksReaching_13 rfl (by decide) ?_
    refine z_iconst hX (nI 1) dG_blocksReaching_14 rfl ?_
    refine z_istore hX 4 dG_blocksReaching_15 (by decide) ?_
    refine z_le hX [some (.ref g), some (.int (nI tg)), some (.int (zbar bar)), some (.int (bS (zS0 tg bar))), some (.int (nI 1)), none] (And.intro rfl (And.intro rfl (And.intro rfl (And.intro rfl (And.intro rfl trivial))))) ?_
    refine zloop (P := fun j => Z 0 0 17 [some (.ref g), some (.int (nI tg)), some (.int (zbar bar)), some (.int (bS (sp_it (fun _ => sr_r fr to bar m) j (zS0 tg bar)))), some (.int (nI (j + 1))), none] [] (wG cI g f t n m fr to)) (n - 1) (fun j hj ih => ?_) 0 (Nat.zero_le _)
    refine z_iload hX 4 dG_blocksReaching_17 rfl ?_
    refine z_aload_n hX 0 dG_blocksReaching_19 rfl rfl ?_
    refine z_get hX 0 0 rfl rfl (zu inG) (by decide) (List.mem_cons_of_mem _ mw_31) rfl dG_blocksReaching_20 ?_
    refine z_icmp_geN hX 88 (by omega) (by omega) dG_blocksReaching_23 rfl (fun h23 => ?_) (fun h23 => ?_)
    · refine z_iload_n hX 3 dG_blocksReaching_88 rfl rfl ?_
      refine z_iret hX rfl rfl rfl rfl dG_blocksReaching_89 ?_
      rw [show n - 1 = j by omega]
      exact ⟨rfl, rfl⟩
    · refine z_iconst hX (nI 0) dG_blocksReaching_26 rfl ?_
      refine z_istore hX 5 dG_blocksReaching_27 (by decide) ?_
      refine zloop (P := fun e => Z 0 0 29 [some (.ref g), some (.int (nI tg)), some (.int (zbar bar)), some (.int (bS (sp_it (sr_s fr to bar) e (sp_it (fun _ => sr_r fr to bar m) j (zS0 tg bar))))), some (.int (nI (j + 1))), some (.int (nI e))] [] (wG cI g f t n m fr to)) m (fun e he ih2 => ?_) 0 (Nat.zero_le _)
      refine z_iload hX 5 dG_blocksReaching_29 rfl ?_
      refine z_aload_n hX 0 dG_blocksReaching_31 rfl rfl ?_
      refine z_get hX 0 3 rfl rfl (zu inG) (by decide) (List.mem_cons_of_mem _ mw_50) rfl dG_blocksReaching_32 ?_
      refine z_icmp_geN hX 82 (by omega) (by omega) dG_blocksReaching_35 rfl (fun h35 => ?_) (fun h35 => ?_)
      · refine z_iinc hX 4 dG_blocksReaching_82 rfl (zi_1 _) (by decide) ?_
        refine z_goto hX 17 dG_blocksReaching_85 rfl ?_
        refine z_le hX [some (.ref g), some (.int (nI tg)), some (.int (zbar bar)), some (.int (bS (sp_it (fun _ => sr_r fr to bar m) (j + 1) (zS0 tg bar)))), some (.int (nI (j + 1 + 1))), none] (And.intro rfl (And.intro rfl (And.intro rfl (And.intro ?_ (And.intro rfl trivial))))) (ih (by omega))
        rw [show m = e by omega]
        rfl
      · have hoke := hok e (by omega)
        refine z_iload_n hX 3 dG_blocksReaching_38 rfl rfl ?_
        refine z_aload_n hX 0 dG_blocksReaching_39 rfl rfl ?_
        refine z_get hX 0 2 rfl rfl (zu inG) (by decide) (List.mem_cons_of_mem _ mw_43) rfl dG_blocksReaching_40 ?_
        refine z_iload hX 5 dG_blocksReaching_43 rfl ?_
        refine z_ldN hX 2 0 _ rfl rfl rfl (by omega) (by decide) dG_blocksReaching_45 ?_
        refine z_Nr hX (kA_isIn l D cI cZ _ (to e) (by omega)) "SpanningProbes" mw_272 (by decide) mw_1 mw_271 rfl rfl ⟨by decide, by decide, rfl⟩ (by decide) rfl rfl (Nat.le_of_ble_eq_true rfl) dG_blocksReaching_46 (by decide) [] rfl rfl (fun v wn hv => ?_)
        obtain ⟨rfl, rfl⟩ := hv
        refine ⟨rfl, ?_⟩
        refine z_if_eqB hX 76 dG_blocksReaching_49 rfl (fun h49 => ?_) (fun h49 => ?_)
        · have hs : sp_it (sr_s fr to bar) (e + 1) (sp_it (fun _ => sr_r fr to bar m) j (zS0 tg bar)) = sp_it (sr_s fr to bar) e (sp_it (fun _ => sr_r fr to bar m) j (zS0 tg bar)) := if_neg (fun hc => by rw [h49] at hc; exact absurd hc.1 (by decide))
          refine z_iinc hX 5 dG_blocksReaching_76 rfl (zi_1 _) (by decide) ?_
          refine z_goto hX 29 dG_blocksReaching_79 rfl ?_
          have hz := ih2 (by omega)
          rw [hs] at hz
          exact hz
        · refine z_aload_n hX 0 dG_blocksReaching_52 rfl rfl ?_
          refine z_get hX 0 1 rfl rfl (zu inG) (by decide) (List.mem_cons_of_mem _ mw_37) rfl dG_blocksReaching_53 ?_
          refine z_iload hX 5 dG_blocksReaching_56 rfl ?_
          refine z_ldN hX 1 0 _ rfl rfl rfl (by omega) (by decide) dG_blocksReaching_58 ?_
          refine z_iload_n hX 2 dG_blocksReaching_59 rfl rfl ?_
          refine z_icmp_eq hX 76 dG_blocksReaching_60 rfl (fun h60 => ?_) (fun h60 => ?_)
          · have hs : sp_it (sr_s fr to bar) (e + 1) (sp_it (fun _ => sr_r fr to bar m) j (zS0 tg bar)) = sp_it (sr_s fr to bar) e (sp_it (fun _ => sr_r fr to bar m) j (zS0 tg bar)) := if_neg (fun hc => hc.2 ((zbar_eq (by omega) hbar).mp h60))
            refine z_iinc hX 5 dG_blocksReaching_76 rfl (zi_1 _) (by decide) ?_
            refine z_goto hX 29 dG_blocksReaching_79 rfl ?_
            have hz := ih2 (by omega)
            rw [hs] at hz
            exact hz
          · have hs : sp_it (sr_s fr to bar) (e + 1) (sp_it (fun _ => sr_r fr to bar m) j (zS0 tg bar)) = va_up (sp_it (sr_s fr to bar) e (sp_it (fun _ => sr_r fr to bar m) j (zS0 tg bar))) (fr e) true := if_pos ⟨h49, fun hc => h60 ((zbar_eq (by omega) hbar).mpr hc)⟩
            refine z_iload_n hX 3 dG_blocksReaching_63 rfl rfl ?_
            refine z_aload_n hX 0 dG_blocksReaching_64 rfl rfl ?_
            refine z_get hX 0 1 rfl rfl (zu inG) (by decide) (List.mem_cons_of_mem _ mw_37) rfl dG_blocksReaching_65 ?_
            refine z_iload hX 5 dG_blocksReaching_68 rfl ?_
            refine z_ldN hX 1 0 _ rfl rfl rfl (by omega) (by decide) dG_blocksReaching_70 ?_
            refine z_Nr hX (kA_bit l D cI cZ (fr e) (by omega)) "SpanningProbes" mw_261 (by decide) mw_1 mw_260 rfl rfl ⟨by decide, by decide, rfl⟩ (by decide) rfl rfl (Nat.le_of_ble_eq_true rfl) dG_blocksReaching_71 (by decide) [] rfl rfl (fun v wn hv => ?_)
            obtain ⟨rfl, rfl⟩ := hv
            refine ⟨rfl, ?_⟩
            refine z_ior hX dG_blocksReaching_74 ?_
            rw [bS_put]
            refine z_istore_n hX 3 dG_blocksReaching_75 rfl (by decide) ?_
            refine z_iinc hX 5 dG_blocksReaching_76 rfl (zi_1 _) (by decide) ?_
            refine z_goto hX 29 dG_blocksReaching_79 rfl ?_
            have hz := ih2 (by omega)
            rw [hs] at hz
            exact hz
  refine z_icmp_ne hX 9 dG_blocksReaching_2 rfl (fun h2 => ?_) (fun h2 => ?_)
  · refine z_iload_n hX 1 dG_blocksReaching_9 rfl rfl ?_
    refine z_Nr hX (kA_bit l D cI cZ tg (by omega)) "SpanningProbes" mw_261 (by decide) mw_1 mw_260 rfl rfl ⟨by decide, by decide, rfl⟩ (by decide) rfl rfl (Nat.le_of_ble_eq_true rfl) dG_blocksReaching_10 (by decide) [] rfl rfl (fun v wn hv => ?_)
    obtain ⟨rfl, rfl⟩ := hv
    refine ⟨rfl, ?_⟩
    rw [show (fun i => decide (i = tg)) = zS0 tg bar from (if_neg (fun hc => h2 ((zbar_eq (by omega) hbar).mpr hc))).symm]
    exact cut
  · refine z_iconst hX (bS (zS0 tg bar)) dG_blocksReaching_5 (by rw [show zS0 tg bar = (fun _ => false) from if_pos ((zbar_eq (by omega) hbar).mp h2), bS_none]; rfl) ?_
    refine z_goto hX 13 dG_blocksReaching_6 rfl ?_
    exact cut
end
section
/-! more words: signs of numbers, sets of all blocks; the cells of a Search -/
theorem zi_eq0 {a : Nat} (h : a < 2147483648) : nI a = 0 ↔ a = 0 := by
  rw [← nI_0]; exact nI_eq h (by omega)
theorem zi_le0 {a : Nat} (h : a < 2147483648) : nI a ≤ 0 ↔ a = 0 := by
  rw [← nI_0, nI_leI h (by omega)]; omega
theorem zi_gt0 {a : Nat} (h : a < 2147483648) : 0 < nI a ↔ 0 < a := by
  rw [← nI_0]; exact nI_ltI (by omega) h
theorem zi_ge0 {a : Nat} (h : a < 2147483648) : 0 ≤ nI a := by
  rw [← nI_0]; exact (nI_leI (by omega) h).mpr (Nat.zero_le a)
theorem zi_pred {a : Nat} (h : 0 < a) : nI a + Int32.ofInt (-1) = nI (a - 1) := by
  obtain ⟨b, rfl⟩ : ∃ b, a = b + 1 := ⟨a - 1, by omega⟩
  exact pk_m1 b
theorem zE_ge {m e : Nat} (hm : m < 2147483648) : 0 ≤ zE m e ↔ e < m := by
  by_cases h : e < m
  · rw [zE_in h]
    exact ⟨fun _ => h, fun _ => zi_ge0 (by omega)⟩
  · rw [zE_out (by omega)]
    exact ⟨fun hc => absurd hc (by decide), fun hc => absurd hc h⟩
def zallb (n : Nat) (S : Nat → Bool) : Bool := decide (∀ b, b < n → S b = true)
theorem zall_iff {n : Nat} {S : Nat → Bool} (hn : n < 31) (hS : ∀ b, S b = true → b < n) : bS S = bS (fun i => decide (i < n)) ↔ ∀ b, b < n → S b = true := by
  rw [bS_eq]
  constructor
  · intro h b hb
    rw [h b (by omega)]
    exact decide_eq_true hb
  · intro h i _
    by_cases hi : i < n
    · rw [h i hi, decide_eq_true hi]
    · rw [decide_eq_false hi]
      cases hs : S i with
      | true => exact absurd (hS i hs) hi
      | false => rfl
theorem zpick_S0 {tg n : Nat} {bar : Option Nat} (h : tg < n) : ∀ b, zS0 tg bar b = true → b < n := by
  intro b hb
  unfold zS0 at hb
  split at hb
  · cases hb
  · have := of_decide_eq_true hb
    omega
theorem sr_in {fr to : Nat → Nat} {bar : Option Nat} {m n : Nat} (hok : ∀ e, e < m → fr e < n ∧ to e < n) {S : Nat → Bool} (hS : ∀ b, S b = true → b < n) (k : Nat) : ∀ b, sp_it (fun _ => sr_r fr to bar m) k S b = true → b < n := sp_it_inv (I := fun _ (T : Nat → Bool) => ∀ b, T b = true → b < n) hS k (fun _ T _ hT => sr_r_in hok hT)
def zpick (fr : Nat → Nat) (b m pl : Nat) : Int32 := if sg_deg fr b m = 0 then -1 else nI (sg_pk fr b m (pl % sg_deg fr b m))
abbrev wS (cI cZ : ClassId) (s g ib fi sk lu : Nat) (Mt Op : Nat → Bool) (h : Nat) (bk : Nat → Bool) (fin st lk : Nat → Nat) : va_W := [(s, .inr (1, [.ref g, .ref ib, .ref fi, .ref sk, .ref lu, .int (bS Mt), .int (bS Op), .int (nI h)])), (ib, .inl (cZ, 24, .inl (aB bk))), (fi, .inl (cI, 12, .inl (aN fin))), (sk, .inl (cI, 12, .inl (aN st))), (lu, .inl (cI, 12, .inl (aN lk)))]
theorem ss_bounds {n m : Nat} {fr to met look st : Nat → Nat} {h : Nat} {bk : Nat → Bool} {fin : Nat → Nat} {k : Nat} (I : ss_I n m fr to met look st (h + 1) bk fin k) : h + 1 ≤ n ∧ k < n := by
  obtain ⟨iA, iB, iC, iD, iE, iF, iG, iH, iJ, iK, iM, iN, iO⟩ := I
  have h1 := sp_cnt_le (fun b => decide (met b = 1)) n
  have h2 := iA 0 (by omega)
  have h3 := sp_cnt_lt (p := fun b => decide (met b = 2)) (q := fun _ => true) (k := n) (j := st 0) (fun _ _ _ => rfl) h2.1 rfl (fun hc => by have := of_decide_eq_true hc; omega)
  rw [sp_cnt_true] at h3
  exact ⟨by omega, by omega⟩
theorem ss_room {n m : Nat} {fr to met look st : Nat → Nat} {h : Nat} {bk : Nat → Bool} {fin : Nat → Nat} {k t : Nat} (I : ss_I n m fr to met look st h bk fin k) (ht : t < n) (hm : met t = 0) : h < n := by
  obtain ⟨iA, iB, iC, iD, iE, iF, iG, iH, iJ, iK, iM, iN, iO⟩ := I
  have h3 := sp_cnt_lt (p := fun b => decide (met b = 1)) (q := fun _ => true) (k := n) (j := t) (fun _ _ _ => rfl) ht rfl (fun hc => by have := of_decide_eq_true hc; omega)
  rw [sp_cnt_true] at h3
  omega
theorem zm_pop0 (met : Nat → Nat) {b : Nat} (hb : met b = 1) : (fun x => decide (va_up met b 2 x ≠ 0)) = (fun x => decide (met x ≠ 0)) := by
  funext x
  by_cases h : x = b
  · subst h; rw [sp_up_s, hb]; rfl
  · rw [sp_up_n _ _ h]
theorem zm_pop1 (met : Nat → Nat) (b : Nat) : (fun x => decide (va_up met b 2 x = 1)) = va_up (fun x => decide (met x = 1)) b false := by
  funext x
  by_cases h : x = b
  · subst h; rw [sp_up_s, sp_up_s]; rfl
  · rw [sp_up_n _ _ h, sp_up_n _ _ h]
theorem zm_push0 (met : Nat → Nat) (b : Nat) : (fun x => decide (va_up met b 1 x ≠ 0)) = va_up (fun x => decide (met x ≠ 0)) b true := by
  funext x
  by_cases h : x = b
  · subst h; rw [sp_up_s, sp_up_s]; rfl
  · rw [sp_up_n _ _ h, sp_up_n _ _ h]
theorem zm_push1 (met : Nat → Nat) (b : Nat) : (fun x => decide (va_up met b 1 x = 1)) = va_up (fun x => decide (met x = 1)) b true := by
  funext x
  by_cases h : x = b
  · subst h; rw [sp_up_s, sp_up_s]; rfl
  · rw [sp_up_n _ _ h, sp_up_n _ _ h]
theorem zm_start0 : (fun x => decide (va_up (fun _ => 0) 0 1 x ≠ 0)) = va_up (fun _ => false) 0 true := by
  rw [zm_push0]; rfl
theorem zm_start1 : (fun x => decide (va_up (fun _ => 0) 0 1 x = 1)) = va_up (fun _ => false) 0 true := by
  rw [zm_push1]; rfl
end
section
/-! Graph.allReachExit, pickFrom; Search -/
set_option maxHeartbeats 1000000 in
set_option maxRecDepth 100000 in
theorem kG_allReachExit (l : Launch) (D : va_G) (cI cZ : ClassId) (g f t n m : Nat) (fr to : Nat → Nat) (hn : 2 ≤ n ∧ n ≤ 12) (hm : m ≤ 24) (hok : ∀ e, e < m → fr e < n ∧ to e < n) : zM l yG_allReachExit wG_allReachExit rG_allReachExit D zCl (zTy cI cZ) zNW 0 0 [.ref g] (wG cI g f t n m fr to) (fun v wn => v = some (.int (bN (zallb n (sp_it (fun _ => sr_r fr to none m) (n - 1) (zS0 1 none))))) ∧ wn = wG cI g f t n m fr to) := by
  have hin := sr_in (bar := none) hok (zpick_S0 (tg := 1) (bar := none) (n := n) (by omega)) (n - 1)
  refine z_met2 cG_allReachExit 1 (some .boolean) rfl rfl (Nat.le_of_ble_eq_true rfl) rfl (fun Z hX => ?_)
  show Z 0 0 0 [some (.ref g)] [] (wG cI g f t n m fr to)
  refine z_aload_n hX 0 dG_allReachExit_0 rfl rfl ?_
  refine z_iconst hX (nI 1) dG_allReachExit_1 rfl ?_
  refine z_iconst hX (-1) dG_allReachExit_2 rfl ?_
  refine z_Vr hX (kG_blocksReaching l D cI cZ g f t n m fr to 1 none hn hm hok (by omega) (fun b hb => by cases hb)) mw_286 mw_287 mw_288 mw_2 mw_289 rfl rfl ⟨rfl, by decide, by decide, rfl⟩ (by decide) 0 rfl rfl rfl rfl (Nat.le_of_ble_eq_true rfl) dG_allReachExit_3 (by decide) [0, 1, 2] rfl rfl (fun v wn hv => ?_)
  obtain ⟨rfl, rfl⟩ := hv
  refine ⟨rfl, ?_⟩
  refine z_aload_n hX 0 dG_allReachExit_6 rfl rfl ?_
  refine z_Vr hX (kG_allBlocks l D cI cZ g f t n m fr to (by omega)) mw_291 mw_278 mw_279 mw_2 mw_280 rfl rfl ⟨rfl, by decide, by decide, rfl⟩ (by decide) 0 rfl rfl rfl rfl (Nat.le_of_ble_eq_true rfl) dG_allReachExit_7 (by decide) [0, 1, 2] rfl rfl (fun v wn hv => ?_)
  obtain ⟨rfl, rfl⟩ := hv
  refine ⟨rfl, ?_⟩
  refine z_icmp_ne hX 17 dG_allReachExit_10 rfl (fun h10 => ?_) (fun h10 => ?_)
  · have hr : zallb n (sp_it (fun _ => sr_r fr to none m) (n - 1) (zS0 1 none)) = false := decide_eq_false (fun hc => h10 ((zall_iff (by omega) hin).mpr hc))
    refine z_iconst hX (bN false) dG_allReachExit_17 rfl ?_
    refine z_iret hX rfl (bN_n _) rfl rfl dG_allReachExit_18 ?_
    exact ⟨by rw [hr], rfl⟩
  · have hr : zallb n (sp_it (fun _ => sr_r fr to none m) (n - 1) (zS0 1 none)) = true := decide_eq_true ((zall_iff (by omega) hin).mp h10)
    refine z_iconst hX (bN true) dG_allReachExit_13 rfl ?_
    refine z_goto hX 18 dG_allReachExit_14 rfl ?_
    refine z_iret hX rfl (bN_n _) rfl rfl dG_allReachExit_18 ?_
    exact ⟨by rw [hr], rfl⟩

set_option maxHeartbeats 1000000 in
set_option maxRecDepth 100000 in
theorem kG_pickFrom (l : Launch) (D : va_G) (cI cZ : ClassId) (g f t n m : Nat) (fr to : Nat → Nat) (b pl : Nat) (hb : b < 2147483648) (hpl : pl < 2147483648) (hn : 2 ≤ n ∧ n ≤ 12) (hm : m ≤ 24) (hok : ∀ e, e < m → fr e < n ∧ to e < n) : zM l yG_pickFrom wG_pickFrom rG_pickFrom D zCl (zTy cI cZ) zNW 0 0 [.ref g, .int (nI b), .int (nI pl)] (wG cI g f t n m fr to) (fun v wn => v = some (.int (zpick fr b m pl)) ∧ wn = wG cI g f t n m fr to) := by
  refine z_met2 cG_pickFrom 6 (some .int) rfl rfl (Nat.le_of_ble_eq_true rfl) rfl (fun Z hX => ?_)
  show Z 0 0 0 [some (.ref g), some (.int (nI b)), some (.int (nI pl)), none, none, none] [] (wG cI g f t n m fr to)
  refine z_iconst hX (nI 0) dG_pickFrom_0 rfl ?_
  refine z_istore_n hX 3 dG_pickFrom_1 rfl (by decide) ?_
  refine z_iconst hX (nI 0) dG_pickFrom_2 rfl ?_
  refine z_istore hX 4 dG_pickFrom_3 (by decide) ?_
  refine zloop (P := fun i => Z 0 0 5 [some (.ref g), some (.int (nI b)), some (.int (nI pl)), some (.int (nI (sp_cnt (fun e => decide (fr e = b)) i))), some (.int (nI i)), none] [] (wG cI g f t n m fr to)) m (fun i hi ih => ?_) 0 (Nat.zero_le _)
  refine z_iload hX 4 dG_pickFrom_5 rfl ?_
  refine z_aload_n hX 0 dG_pickFrom_7 rfl rfl ?_
  refine z_get hX 0 3 rfl rfl (zu inG) (by decide) (List.mem_cons_of_mem _ mw_50) rfl dG_pickFrom_8 ?_
  refine z_icmp_geN hX 34 (by omega) (by omega) dG_pickFrom_11 rfl (fun h11 => ?_) (fun h11 => ?_)
  · have him : i = m := by omega
    rw [him]
    have hdd : sp_cnt (fun e => decide (fr e = b)) m = sg_deg fr b m := rfl
    rw [hdd]
    have hdl : sg_deg fr b m ≤ m := sp_cnt_le _ _
    refine z_iload_n hX 3 dG_pickFrom_34 rfl rfl ?_
    refine z_if_ne hX 40 dG_pickFrom_35 rfl (fun h35 => ?_) (fun h35 => ?_)
    · have hd0 : 0 < sg_deg fr b m := by
        have := (zi_eq0 (a := sg_deg fr b m) (by omega)).mpr
        by_cases hc : sg_deg fr b m = 0
        · exact absurd (this hc) h35
        · omega
      have hml := Nat.mod_lt pl hd0
      have hk := fun t ht => sg_pk_spec (fr := fr) (b := b) (m := m) t ht
      refine z_aload_n hX 0 dG_pickFrom_40 rfl rfl ?_
      refine z_iload_n hX 1 dG_pickFrom_41 rfl rfl ?_
      refine z_iconst hX (nI 0) dG_pickFrom_42 rfl ?_
      refine z_Vr hX (kG_nextFrom l D cI cZ g f t n m fr to b 0 hb (fun e he => by have := hok e he; omega) hm (Nat.zero_le _)) mw_446 mw_263 mw_264 mw_2 mw_265 rfl rfl ⟨rfl, by decide, by decide, rfl⟩ (by decide) 0 rfl rfl rfl rfl (Nat.le_of_ble_eq_true rfl) dG_pickFrom_43 (by decide) [0, 1, 2] rfl rfl (fun v wn hv => ?_)
      obtain ⟨rfl, rfl⟩ := hv
      refine ⟨rfl, ?_⟩
      rw [show zE m (sg_nx fr b (m - 0) 0) = nI (sg_pk fr b m 0) from zE_in (hk 0 hd0).1]
      refine z_istore hX 4 dG_pickFrom_46 (by decide) ?_
      refine z_iload_n hX 2 dG_pickFrom_48 rfl rfl ?_
      refine z_iload_n hX 3 dG_pickFrom_49 rfl rfl ?_
      refine z_irem hX dG_pickFrom_50 (fun hc => by have := (zi_eq0 (a := sg_deg fr b m) (by omega)).mp hc; omega) ?_
      rw [pk_rem (by omega) hd0 (by omega)]
      refine z_istore hX 5 dG_pickFrom_51 (by decide) ?_
      refine zloop (P := fun i => Z 0 0 53 [some (.ref g), some (.int (nI b)), some (.int (nI pl)), some (.int (nI (sg_deg fr b m))), some (.int (nI (sg_pk fr b m i))), some (.int (nI (pl % sg_deg fr b m - i)))] [] (wG cI g f t n m fr to)) (pl % sg_deg fr b m) (fun i hi2 ih2 => ?_) 0 (Nat.zero_le _)
      refine z_iload hX 5 dG_pickFrom_53 rfl ?_
      refine z_if_le hX 75 dG_pickFrom_55 rfl (fun h55 => ?_) (fun h55 => ?_)
      · have hz0 := (zi_le0 (a := pl % sg_deg fr b m - i) (by omega)).mp h55
        refine z_iload hX 4 dG_pickFrom_75 rfl ?_
        refine z_iret hX rfl rfl rfl rfl dG_pickFrom_77 ?_
        exact ⟨by unfold zpick; rw [if_neg (by omega), show pl % sg_deg fr b m = i by omega], rfl⟩
      · have hz0 : ¬ (pl % sg_deg fr b m - i = 0) := fun hc => h55 ((zi_le0 (by omega)).mpr hc)
        have hki := hk i (by omega)
        have hkj := hk (i + 1) (by omega)
        refine z_aload_n hX 0 dG_pickFrom_58 rfl rfl ?_
        refine z_iload_n hX 1 dG_pickFrom_59 rfl rfl ?_
        refine z_iload hX 4 dG_pickFrom_60 rfl ?_
        refine z_iconst hX (nI 1) dG_pickFrom_62 rfl ?_
        refine z_iaddN hX dG_pickFrom_63 ?_
        refine z_Vr hX (kG_nextFrom l D cI cZ g f t n m fr to b (sg_pk fr b m i + 1) hb (fun e he => by have := hok e he; omega) hm (by omega)) mw_446 mw_263 mw_264 mw_2 mw_265 rfl rfl ⟨rfl, by decide, by decide, rfl⟩ (by decide) 0 rfl rfl rfl rfl (Nat.le_of_ble_eq_true rfl) dG_pickFrom_64 (by decide) [0, 1, 2] rfl rfl (fun v wn hv => ?_)
        obtain ⟨rfl, rfl⟩ := hv
        refine ⟨rfl, ?_⟩
        rw [show zE m (sg_nx fr b (m - (sg_pk fr b m i + 1)) (sg_pk fr b m i + 1)) = nI (sg_pk fr b m (i + 1)) from zE_in hkj.1]
        refine z_istore hX 4 dG_pickFrom_67 (by decide) ?_
        refine z_iinc hX 5 dG_pickFrom_69 rfl (zi_pred (by omega)) (by decide) ?_
        refine z_goto hX 53 dG_pickFrom_72 rfl ?_
        exact ih2 (by omega)
    · have hd0 := (zi_eq0 (a := sg_deg fr b m) (by omega)).mp h35
      refine z_iconst hX (-1) dG_pickFrom_38 rfl ?_
      refine z_iret hX rfl rfl rfl rfl dG_pickFrom_39 ?_
      exact ⟨by unfold zpick; rw [if_pos hd0], rfl⟩
  · have hoke := hok i (by omega)
    refine z_aload_n hX 0 dG_pickFrom_14 rfl rfl ?_
    refine z_get hX 0 1 rfl rfl (zu inG) (by decide) (List.mem_cons_of_mem _ mw_37) rfl dG_pickFrom_15 ?_
    refine z_iload hX 4 dG_pickFrom_18 rfl ?_
    refine z_ldN hX 1 0 _ rfl rfl rfl (by omega) (by decide) dG_pickFrom_20 ?_
    refine z_iload_n hX 1 dG_pickFrom_21 rfl rfl ?_
    refine z_icmp_neN hX 28 (by omega) (by omega) dG_pickFrom_22 rfl (fun h22 => ?_) (fun h22 => ?_)
    · have hs : sp_cnt (fun e => decide (fr e = b)) (i + 1) = sp_cnt (fun e => decide (fr e = b)) i := by show _ + (if decide (fr i = b) = true then 1 else 0) = _; rw [decide_eq_false h22]; rfl
      refine z_iinc hX 4 dG_pickFrom_28 rfl (zi_1 _) (by decide) ?_
      refine z_goto hX 5 dG_pickFrom_31 rfl ?_
      have hz := ih (by omega)
      rw [hs] at hz
      exact hz
    · have hs : sp_cnt (fun e => decide (fr e = b)) (i + 1) = sp_cnt (fun e => decide (fr e = b)) i + 1 := by show _ + (if decide (fr i = b) = true then 1 else 0) = _; rw [decide_eq_true h22]; rfl
      refine z_iinc hX 3 dG_pickFrom_25 rfl (zi_1 _) (by decide) ?_
      refine z_iinc hX 4 dG_pickFrom_28 rfl (zi_1 _) (by decide) ?_
      refine z_goto hX 5 dG_pickFrom_31 rfl ?_
      have hz := ih (by omega)
      rw [hs] at hz
      exact hz

set_option maxHeartbeats 1000000 in
set_option maxRecDepth 100000 in
theorem kS_enter (l : Launch) (D : va_G) (cI cZ : ClassId) (s g ib fi sk lu : Nat) (Mt Op : Nat → Bool) (h : Nat) (bk : Nat → Bool) (fin st lk : Nat → Nat) (b : Nat) (hb : b < 12) (hh : h < 12) : zM l yS_enter wS_enter rS_enter D zCl (zTy cI cZ) zNW 0 0 [.ref s, .int (nI b)] (wS cI cZ s g ib fi sk lu Mt Op h bk fin st lk) (fun v wn => v = none ∧ wn = wS cI cZ s g ib fi sk lu (va_up Mt b true) (va_up Op b true) (h + 1) bk fin (va_up st h b) (va_up lk b 0)) := by
  refine z_met2 cS_enter 2 none rfl rfl (Nat.le_of_ble_eq_true rfl) rfl (fun Z hX => ?_)
  show Z 0 0 0 [some (.ref s), some (.int (nI b))] [] (wS cI cZ s g ib fi sk lu Mt Op h bk fin st lk)
  refine z_aload_n hX 0 dS_enter_0 rfl rfl ?_
  refine z_dup hX dS_enter_1 rfl ?_
  refine z_get hX 0 5 rfl rfl (zu inS) (by decide) (List.mem_cons_of_mem _ mw_82) rfl dS_enter_2 ?_
  refine z_iload_n hX 1 dS_enter_5 rfl rfl ?_
  refine z_Nr hX (kA_bit l D cI cZ b (by omega)) "SpanningProbes" mw_261 (by decide) mw_1 mw_260 rfl rfl ⟨by decide, by decide, rfl⟩ (by decide) rfl rfl (Nat.le_of_ble_eq_true rfl) dS_enter_6 (by decide) [] rfl rfl (fun v wn hv => ?_)
  obtain ⟨rfl, rfl⟩ := hv
  refine ⟨rfl, ?_⟩
  refine z_ior hX dS_enter_9 ?_
  rw [bS_put]
  refine z_put hX 0 5 rfl rfl (zu inS) tyS tyS_ok nmS (by decide) (List.mem_cons_of_mem _ mw_82) (Or.inl rfl) rfl rfl rfl (Nat.le_of_ble_eq_true rfl) dS_enter_10 ?_
  refine z_aload_n hX 0 dS_enter_13 rfl rfl ?_
  refine z_dup hX dS_enter_14 rfl ?_
  refine z_get hX 0 6 rfl rfl (zu inS) (by decide) (List.mem_cons_of_mem _ mw_83) rfl dS_enter_15 ?_
  refine z_iload_n hX 1 dS_enter_18 rfl rfl ?_
  refine z_Nr hX (kA_bit l D cI cZ b (by omega)) "SpanningProbes" mw_261 (by decide) mw_1 mw_260 rfl rfl ⟨by decide, by decide, rfl⟩ (by decide) rfl rfl (Nat.le_of_ble_eq_true rfl) dS_enter_19 (by decide) [] rfl rfl (fun v wn hv => ?_)
  obtain ⟨rfl, rfl⟩ := hv
  refine ⟨rfl, ?_⟩
  refine z_ior hX dS_enter_22 ?_
  rw [bS_put]
  refine z_put hX 0 6 rfl rfl (zu inS) tyS tyS_ok nmS (by decide) (List.mem_cons_of_mem _ mw_83) (Or.inl rfl) rfl rfl rfl (Nat.le_of_ble_eq_true rfl) dS_enter_23 ?_
  refine z_aload_n hX 0 dS_enter_26 rfl rfl ?_
  refine z_get hX 0 4 rfl rfl (zu inS) (by decide) (List.mem_cons_of_mem _ mw_81) rfl dS_enter_27 ?_
  refine z_iload_n hX 1 dS_enter_30 rfl rfl ?_
  refine z_iconst hX (nI 0) dS_enter_31 rfl ?_
  refine z_stN hX 4 0 _ _ rfl rfl rfl rfl (by omega) (by decide) dS_enter_32 ?_
  refine z_aload_n hX 0 dS_enter_33 rfl rfl ?_
  refine z_get hX 0 3 rfl rfl (zu inS) (by decide) (List.mem_cons_of_mem _ mw_80) rfl dS_enter_34 ?_
  refine z_aload_n hX 0 dS_enter_37 rfl rfl ?_
  refine z_get hX 0 7 rfl rfl (zu inS) (by decide) (List.mem_cons_of_mem _ mw_84) rfl dS_enter_38 ?_
  refine z_iload_n hX 1 dS_enter_41 rfl rfl ?_
  refine z_stN hX 3 0 _ _ rfl rfl rfl rfl (by omega) (by decide) dS_enter_42 ?_
  refine z_aload_n hX 0 dS_enter_43 rfl rfl ?_
  refine z_dup hX dS_enter_44 rfl ?_
  refine z_get hX 0 7 rfl rfl (zu inS) (by decide) (List.mem_cons_of_mem _ mw_84) rfl dS_enter_45 ?_
  refine z_iconst hX (nI 1) dS_enter_48 rfl ?_
  refine z_iaddN hX dS_enter_49 ?_
  refine z_put hX 0 7 rfl rfl (zu inS) tyS tyS_ok nmS (by decide) (List.mem_cons_of_mem _ mw_84) (Or.inl rfl) rfl rfl rfl (Nat.le_of_ble_eq_true rfl) dS_enter_50 ?_
  refine z_vret hX rfl rfl rfl dS_enter_53 ?_
  exact ⟨rfl, rfl⟩

set_option maxHeartbeats 1000000 in
set_option maxRecDepth 100000 in
theorem kS_lookAt (l : Launch) (D : va_G) (cI cZ : ClassId) (s g ib fi sk lu : Nat) (Mt Op : Nat → Bool) (h : Nat) (bk : Nat → Bool) (fin st lk : Nat → Nat) (f t n m : Nat) (fr to : Nat → Nat) (e : Nat) (he : e < 24) (ht : to e < 12) (hh : Mt (to e) = false → h < 12) : zM l yS_lookAt wS_lookAt rS_lookAt D zCl (zTy cI cZ) zNW 0 0 [.ref s, .int (nI e)] (wS cI cZ s g ib fi sk lu Mt Op h bk fin st lk ++ wG cI g f t n m fr to) (fun v wn => v = none ∧ wn = (if Mt (to e) = true then wS cI cZ s g ib fi sk lu Mt Op h (va_up bk e (Op (to e))) fin st lk else wS cI cZ s g ib fi sk lu (va_up Mt (to e) true) (va_up Op (to e) true) (h + 1) (va_up bk e (Op (to e))) fin (va_up st h (to e)) (va_up lk (to e) 0)) ++ wG cI g f t n m fr to) := by
  refine z_met2 cS_lookAt 3 none rfl rfl (Nat.le_of_ble_eq_true rfl) rfl (fun Z hX => ?_)
  show Z 0 0 0 [some (.ref s), some (.int (nI e)), none] [] (wS cI cZ s g ib fi sk lu Mt Op h bk fin st lk ++ wG cI g f t n m fr to)
  refine z_aload_n hX 0 dS_lookAt_0 rfl rfl ?_
  refine z_get hX 0 0 rfl rfl (zu inS) (by decide) (List.mem_cons_of_mem _ mw_73) rfl dS_lookAt_1 ?_
  refine z_get hX 5 2 rfl rfl (zu inG) (by decide) (List.mem_cons_of_mem _ mw_47) rfl dS_lookAt_4 ?_
  refine z_iload_n hX 1 dS_lookAt_7 rfl rfl ?_
  refine z_ldN hX 7 0 _ rfl rfl rfl (by omega) (by decide) dS_lookAt_8 ?_
  refine z_istore_n hX 2 dS_lookAt_9 rfl (by decide) ?_
  refine z_aload_n hX 0 dS_lookAt_10 rfl rfl ?_
  refine z_get hX 0 1 rfl rfl (zu inS) (by decide) (List.mem_cons_of_mem _ mw_74) rfl dS_lookAt_11 ?_
  refine z_iload_n hX 1 dS_lookAt_14 rfl rfl ?_
  refine z_aload_n hX 0 dS_lookAt_15 rfl rfl ?_
  refine z_get hX 0 6 rfl rfl (zu inS) (by decide) (List.mem_cons_of_mem _ mw_83) rfl dS_lookAt_16 ?_
  refine z_iload_n hX 2 dS_lookAt_19 rfl rfl ?_
  refine z_Nr hX (kA_isIn l D cI cZ Op (to e) (by omega)) "SpanningProbes" mw_272 (by decide) mw_1 mw_271 rfl rfl ⟨by decide, by decide, rfl⟩ (by decide) rfl rfl (Nat.le_of_ble_eq_true rfl) dS_lookAt_20 (by decide) [] rfl rfl (fun v wn hv => ?_)
  obtain ⟨rfl, rfl⟩ := hv
  refine ⟨rfl, ?_⟩
  refine z_stB hX 1 1 _ _ rfl rfl rfl rfl (by omega) (by decide) dS_lookAt_23 ?_
  refine z_aload_n hX 0 dS_lookAt_24 rfl rfl ?_
  refine z_get hX 0 5 rfl rfl (zu inS) (by decide) (List.mem_cons_of_mem _ mw_82) rfl dS_lookAt_25 ?_
  refine z_iload_n hX 2 dS_lookAt_28 rfl rfl ?_
  refine z_Nr hX (kA_isIn l D cI cZ Mt (to e) (by omega)) "SpanningProbes" mw_272 (by decide) mw_1 mw_271 rfl rfl ⟨by decide, by decide, rfl⟩ (by decide) rfl rfl (Nat.le_of_ble_eq_true rfl) dS_lookAt_29 (by decide) [] rfl rfl (fun v wn hv => ?_)
  obtain ⟨rfl, rfl⟩ := hv
  refine ⟨rfl, ?_⟩
  refine z_if_neB hX 40 dS_lookAt_32 rfl (fun h32 => ?_) (fun h32 => ?_)
  · refine z_vret hX rfl rfl rfl dS_lookAt_40 ?_
    exact ⟨rfl, by rw [h32]; rfl⟩
  · refine z_aload_n hX 0 dS_lookAt_35 rfl rfl ?_
    refine z_iload_n hX 2 dS_lookAt_36 rfl rfl ?_
    refine z_Vm hX (kS_enter l D cI cZ s g ib fi sk lu Mt Op h (va_up bk e (Op (to e))) fin st lk (to e) ht (hh h32)) mw_255 mw_257 mp_1_0 mw_4 mw_258 rfl rfl ⟨rfl, by decide, by decide, rfl⟩ (by decide) 0 rfl rfl rfl rfl (Nat.le_of_ble_eq_true rfl) dS_lookAt_37 (by decide) [0, 1, 2, 3, 4] rfl rfl (fun v wn hv => ?_)
    obtain ⟨rfl, rfl⟩ := hv
    refine ⟨by simp, ?_⟩
    refine z_vret hX rfl rfl rfl dS_lookAt_40 ?_
    exact ⟨rfl, by rw [h32]; rfl⟩
end
section
/-! Search.metAll, explore -/
theorem z_le2 {Z : zF} {l : Launch} {R : Room} {D : va_G} {cl : List vw_C} {tys : List (ClassId × FieldType)} {NW : List (String × Nat × MethodName × String)} {cc : ByteArray} {nL : Nat} {own : String} {Ts : List Cond} {mc ms : Nat} {ret : Option FieldType} {nm : String} {E : Option Value → va_W → Prop} {k j pc : Nat} {lv lv2 : List (Option Value)} {st : List Value} {ws : va_W} (hX : zX Z l R D cl tys NW cc nL own Ts mc ms ret nm E) (kk : Z k j pc lv st ws) (h : zl_le lv lv2) : Z k j pc lv2 st ws := z_le hX lv h kk
set_option maxHeartbeats 1000000 in
set_option maxRecDepth 100000 in
theorem kS_metAll (l : Launch) (D : va_G) (cI cZ : ClassId) (s g ib fi sk lu : Nat) (Mt Op : Nat → Bool) (h : Nat) (bk : Nat → Bool) (fin st lk : Nat → Nat) (f t n m : Nat) (fr to : Nat → Nat) (hn : n ≤ 12) (hMt : ∀ b, Mt b = true → b < n) : zM l yS_metAll wS_metAll rS_metAll D zCl (zTy cI cZ) zNW 0 0 [.ref s] (wS cI cZ s g ib fi sk lu Mt Op h bk fin st lk ++ wG cI g f t n m fr to) (fun v wn => v = some (.int (bN (zallb n Mt))) ∧ wn = wS cI cZ s g ib fi sk lu Mt Op h bk fin st lk ++ wG cI g f t n m fr to) := by
  refine z_met2 cS_metAll 1 (some .boolean) rfl rfl (Nat.le_of_ble_eq_true rfl) rfl (fun Z hX => ?_)
  show Z 0 0 0 [some (.ref s)] [] (wS cI cZ s g ib fi sk lu Mt Op h bk fin st lk ++ wG cI g f t n m fr to)
  refine z_aload_n hX 0 dS_metAll_0 rfl rfl ?_
  refine z_get hX 0 5 rfl rfl (zu inS) (by decide) (List.mem_cons_of_mem _ mw_82) rfl dS_metAll_1 ?_
  refine z_aload_n hX 0 dS_metAll_4 rfl rfl ?_
  refine z_get hX 0 0 rfl rfl (zu inS) (by decide) (List.mem_cons_of_mem _ mw_73) rfl dS_metAll_5 ?_
  refine z_Vr hX (kG_allBlocks l D cI cZ g f t n m fr to (by omega)) mw_277 mw_278 mw_279 mw_2 mw_280 rfl rfl ⟨rfl, by decide, by decide, rfl⟩ (by decide) 5 rfl rfl rfl rfl (Nat.le_of_ble_eq_true rfl) dS_metAll_8 (by decide) [5, 6, 7] rfl rfl (fun v wn hv => ?_)
  obtain ⟨rfl, rfl⟩ := hv
  refine ⟨rfl, ?_⟩
  refine z_icmp_ne hX 18 dS_metAll_11 rfl (fun h11 => ?_) (fun h11 => ?_)
  · have hr : zallb n Mt = false := decide_eq_false (fun hc => h11 ((zall_iff (by omega) hMt).mpr hc))
    refine z_iconst hX (bN false) dS_metAll_18 rfl ?_
    refine z_iret hX rfl (bN_n _) rfl rfl dS_metAll_19 ?_
    exact ⟨by rw [hr], rfl⟩
  · have hr : zallb n Mt = true := decide_eq_true ((zall_iff (by omega) hMt).mp h11)
    refine z_iconst hX (bN true) dS_metAll_14 rfl ?_
    refine z_goto hX 19 dS_metAll_15 rfl ?_
    refine z_iret hX rfl (bN_n _) rfl rfl dS_metAll_19 ?_
    exact ⟨by rw [hr], rfl⟩

set_option maxHeartbeats 1000000 in
set_option maxRecDepth 100000 in
theorem kS_explore (l : Launch) (D : va_G) (cI cZ : ClassId) (s g ib fi sk lu : Nat) (Mt Op : Nat → Bool) (h : Nat) (bk : Nat → Bool) (fin st lk : Nat → Nat) (f t n m : Nat) (fr to : Nat → Nat) (hn : 2 ≤ n ∧ n ≤ 12) (hm : m ≤ 24) (hok : ∀ e, e < m → fr e < n ∧ to e < n) : zM l yS_explore wS_explore rS_explore D zCl (zTy cI cZ) zNW 0 0 [.ref s] (wS cI cZ s g ib fi sk lu Mt Op h bk fin st lk ++ wG cI g f t n m fr to) (fun v wn => v = none ∧ ∃ met look sq hq bq fq k, ss_run fr to m (n + m) ((va_up (fun _ => 0) 0 1, va_up lk 0 0, va_up st 0 0, 1, bk, fin, 0)) = (met, look, sq, hq, bq, fq, k) ∧ wn = wS cI cZ s g ib fi sk lu (fun x => decide (met x ≠ 0)) (fun x => decide (met x = 1)) hq bq fq sq look ++ wG cI g f t n m fr to) := by
  have hJ0 : ss_J n m fr to ((va_up (fun _ => 0) 0 1, va_up lk 0 0, va_up st 0 0, 1, bk, fin, 0)) := ss_start (look := va_up lk 0 0) (st := va_up st 0 0) hn.1 (sp_up_s lk 0 0) (sp_up_s st 0 0)
  refine z_met2 cS_explore 6 none rfl rfl (Nat.le_of_ble_eq_true rfl) rfl (fun Z hX => ?_)
  show Z 0 0 0 [some (.ref s), none, none, none, none, none] [] (wS cI cZ s g ib fi sk lu Mt Op h bk fin st lk ++ wG cI g f t n m fr to)
  refine z_aload_n hX 0 dS_explore_0 rfl rfl ?_
  refine z_iconst hX (bS (fun _ => false)) dS_explore_1 (by rw [bS_none]; rfl) ?_
  refine z_put hX 0 5 rfl rfl (zu inS) tyS tyS_ok nmS (by decide) (List.mem_cons_of_mem _ mw_82) (Or.inl rfl) rfl rfl rfl (Nat.le_of_ble_eq_true rfl) dS_explore_2 ?_
  refine z_aload_n hX 0 dS_explore_5 rfl rfl ?_
  refine z_iconst hX (bS (fun _ => false)) dS_explore_6 (by rw [bS_none]; rfl) ?_
  refine z_put hX 0 6 rfl rfl (zu inS) tyS tyS_ok nmS (by decide) (List.mem_cons_of_mem _ mw_83) (Or.inl rfl) rfl rfl rfl (Nat.le_of_ble_eq_true rfl) dS_explore_7 ?_
  refine z_aload_n hX 0 dS_explore_10 rfl rfl ?_
  refine z_iconst hX (nI 0) dS_explore_11 rfl ?_
  refine z_put hX 0 7 rfl rfl (zu inS) tyS tyS_ok nmS (by decide) (List.mem_cons_of_mem _ mw_84) (Or.inl rfl) rfl rfl rfl (Nat.le_of_ble_eq_true rfl) dS_explore_12 ?_
  refine z_iconst hX (nI 0) dS_explore_15 rfl ?_
  refine z_istore_n hX 1 dS_explore_16 rfl (by decide) ?_
  refine z_aload_n hX 0 dS_explore_17 rfl rfl ?_
  refine z_iconst hX (nI 0) dS_explore_18 rfl ?_
  refine z_Vm hX (kS_enter l D cI cZ s g ib fi sk lu (fun _ => false) (fun _ => false) 0 bk fin st lk 0 (by omega) (by omega)) mw_255 mw_257 mp_1_0 mw_4 mw_258 rfl rfl ⟨rfl, by decide, by decide, rfl⟩ (by decide) 0 rfl rfl rfl rfl (Nat.le_of_ble_eq_true rfl) dS_explore_19 (by decide) [0, 1, 2, 3, 4] rfl rfl (fun v wn hv => ?_)
  obtain ⟨rfl, rfl⟩ := hv
  refine ⟨by simp, ?_⟩
  refine z_aload_n hX 0 dS_explore_22 rfl rfl ?_
  refine z_get hX 0 0 rfl rfl (zu inS) (by decide) (List.mem_cons_of_mem _ mw_73) rfl dS_explore_23 ?_
  refine z_get hX 5 3 rfl rfl (zu inG) (by decide) (List.mem_cons_of_mem _ mw_54) rfl dS_explore_26 ?_
  refine z_aload_n hX 0 dS_explore_29 rfl rfl ?_
  refine z_get hX 0 0 rfl rfl (zu inS) (by decide) (List.mem_cons_of_mem _ mw_73) rfl dS_explore_30 ?_
  refine z_get hX 5 0 rfl rfl (zu inG) (by decide) (List.mem_cons_of_mem _ mw_33) rfl dS_explore_33 ?_
  refine z_iaddN hX dS_explore_36 ?_
  refine z_istore_n hX 2 dS_explore_37 rfl (by decide) ?_
  refine z_iconst hX (nI 0) dS_explore_38 rfl ?_
  refine z_istore_n hX 3 dS_explore_39 rfl (by decide) ?_
  have hloop : ∀ i, i ≤ m + n → ∀ met look sq hq bq fq k, ss_run fr to m i ((va_up (fun _ => 0) 0 1, va_up lk 0 0, va_up st 0 0, 1, bk, fin, 0)) = (met, look, sq, hq, bq, fq, k) → Z 0 0 40 [some (.ref s), some (.int (nI (k))), some (.int (nI (m + n))), some (.int (nI (i))), none, none] [] (wS cI cZ s g ib fi sk lu (fun x => decide (met x ≠ 0)) (fun x => decide (met x = 1)) hq bq fq sq look ++ wG cI g f t n m fr to) := by
    refine zloop (P := fun i => ∀ met look sq hq bq fq k, ss_run fr to m i ((va_up (fun _ => 0) 0 1, va_up lk 0 0, va_up st 0 0, 1, bk, fin, 0)) = (met, look, sq, hq, bq, fq, k) → Z 0 0 40 [some (.ref s), some (.int (nI (k))), some (.int (nI (m + n))), some (.int (nI (i))), none, none] [] (wS cI cZ s g ib fi sk lu (fun x => decide (met x ≠ 0)) (fun x => decide (met x = 1)) hq bq fq sq look ++ wG cI g f t n m fr to)) (m + n) (fun i hi ih => ?_)
    intro met look sq hq bq fq k hx
    have hJ := (ss_run_J (fun e he => hok e he) hJ0 i).1
    rw [hx] at hJ
    have I : ss_I n m fr to met look sq hq bq fq k := hJ
    refine z_iload_n hX 3 dS_explore_40 rfl rfl ?_
    refine z_iload_n hX 2 dS_explore_41 rfl rfl ?_
    refine z_icmp_geN hX 151 (by omega) (by omega) dS_explore_42 rfl (fun h42 => ?_) (fun h42 => ?_)
    · have hfin : ss_run fr to m (n + m) ((va_up (fun _ => 0) 0 1, va_up lk 0 0, va_up st 0 0, 1, bk, fin, 0)) = (met, look, sq, hq, bq, fq, k) := by rw [show n + m = i by omega]; exact hx
      refine z_vret hX rfl rfl rfl dS_explore_151 ?_
      exact ⟨rfl, met, look, sq, _, bq, fq, k, hfin, rfl⟩
    · refine z_aload_n hX 0 dS_explore_45 rfl rfl ?_
      refine z_get hX 0 7 rfl rfl (zu inS) (by decide) (List.mem_cons_of_mem _ mw_84) rfl dS_explore_46 ?_
      refine z_if_le hX 151 dS_explore_49 rfl (fun h49 => ?_) (fun h49 => ?_)
      · have hq0 : hq = 0 := (zi_le0 (by have := I.2.2.2.2.2.2.2.2.2.2.2.1; have := sp_cnt_le (fun b => decide (met b = 1)) n; omega)).mp h49
        have hfin : ss_run fr to m (n + m) ((va_up (fun _ => 0) 0 1, va_up lk 0 0, va_up st 0 0, 1, bk, fin, 0)) = (met, look, sq, hq, bq, fq, k) := by rw [← ss_same (fun e he => hok e he) hJ0 (i := i) (by rw [hx]; exact hq0)]; exact hx
        refine z_vret hX rfl rfl rfl dS_explore_151 ?_
        exact ⟨rfl, met, look, sq, _, bq, fq, k, hfin, rfl⟩
      · have hqn : ¬ hq = 0 := fun hc => h49 (by rw [hc]; decide)
        obtain ⟨hp, rfl⟩ : ∃ hp, hq = hp + 1 := ⟨hq - 1, by omega⟩
        have hbd := ss_bounds I
        obtain ⟨b, e0, hb, hbn, hb1, hge, hlo, hno, hcase⟩ := ss_cases I
        have hlkm := I.2.2.2.2.2.2.1 b hbn hb1
        refine z_aload_n hX 0 dS_explore_52 rfl rfl ?_
        refine z_get hX 0 3 rfl rfl (zu inS) (by decide) (List.mem_cons_of_mem _ mw_80) rfl dS_explore_53 ?_
        refine z_aload_n hX 0 dS_explore_56 rfl rfl ?_
        refine z_get hX 0 7 rfl rfl (zu inS) (by decide) (List.mem_cons_of_mem _ mw_84) rfl dS_explore_57 ?_
        refine z_iconst hX (nI 1) dS_explore_60 rfl ?_
        refine z_isubN hX (by omega) dS_explore_61 ?_
        rw [Nat.add_sub_cancel]
        refine z_ldN hX 3 0 _ rfl rfl rfl (by omega) (by decide) dS_explore_62 ?_
        rw [hb]
        refine z_istore hX 4 dS_explore_63 (by decide) ?_
        refine z_aload_n hX 0 dS_explore_65 rfl rfl ?_
        refine z_get hX 0 0 rfl rfl (zu inS) (by decide) (List.mem_cons_of_mem _ mw_73) rfl dS_explore_66 ?_
        refine z_iload hX 4 dS_explore_69 rfl ?_
        refine z_aload_n hX 0 dS_explore_71 rfl rfl ?_
        refine z_get hX 0 4 rfl rfl (zu inS) (by decide) (List.mem_cons_of_mem _ mw_81) rfl dS_explore_72 ?_
        refine z_iload hX 4 dS_explore_75 rfl ?_
        refine z_ldN hX 4 0 _ rfl rfl rfl (by omega) (by decide) dS_explore_77 ?_
        refine z_Vr hX (kG_nextFrom l D cI cZ g f t n m fr to b (look b) (by omega) (fun e he => by have := hok e he; omega) hm hlkm) mw_262 mw_263 mw_264 mw_2 mw_265 rfl rfl ⟨rfl, by decide, by decide, rfl⟩ (by decide) 5 rfl rfl rfl rfl (Nat.le_of_ble_eq_true rfl) dS_explore_78 (by decide) [5, 6, 7] rfl rfl (fun v wn hv => ?_)
        obtain ⟨rfl, rfl⟩ := hv
        refine ⟨rfl, ?_⟩
        rw [hge]
        refine z_istore hX 5 dS_explore_81 (by decide) ?_
        refine z_iload hX 5 dS_explore_83 rfl ?_
        refine z_if_ge hX 128 dS_explore_85 rfl (fun h85 => ?_) (fun h85 => ?_)
        · have hc := (zE_ge (m := m) (e := e0) (by omega)).mp h85
          rw [zE_in hc]
          have hoke := hok e0 hc
          have hroom : decide (met (to e0) ≠ 0) = false → hp + 1 < 12 := fun hc2 => by
            have h0 : met (to e0) = 0 := by
              by_cases h0 : met (to e0) = 0
              · exact h0
              · rw [decide_eq_true h0] at hc2; cases hc2
            have := ss_room I hoke.2 h0
            omega
          refine z_aload_n hX 0 dS_explore_128 rfl rfl ?_
          refine z_get hX 0 4 rfl rfl (zu inS) (by decide) (List.mem_cons_of_mem _ mw_81) rfl dS_explore_129 ?_
          refine z_iload hX 4 dS_explore_132 rfl ?_
          refine z_iload hX 5 dS_explore_134 rfl ?_
          refine z_iconst hX (nI 1) dS_explore_136 rfl ?_
          refine z_iaddN hX dS_explore_137 ?_
          refine z_stN hX 4 0 _ _ rfl rfl rfl rfl (by omega) (by decide) dS_explore_138 ?_
          refine z_aload_n hX 0 dS_explore_139 rfl rfl ?_
          refine z_iload hX 5 dS_explore_140 rfl ?_
          refine z_Vm hX (kS_lookAt l D cI cZ s g ib fi sk lu (fun x => decide (met x ≠ 0)) (fun x => decide (met x = 1)) (hp + 1) bq fq sq (va_up look b (e0 + 1)) f t n m fr to e0 (by omega) (by omega) hroom) mw_266 mw_268 mp_1_1 mw_4 mw_269 rfl rfl ⟨rfl, by decide, by decide, rfl⟩ (by decide) 0 rfl rfl rfl rfl (Nat.le_of_ble_eq_true rfl) dS_explore_142 (by decide) [0, 1, 2, 3, 4, 5, 6, 7] rfl rfl (fun v wn hv => ?_)
          obtain ⟨rfl, rfl⟩ := hv
          refine ⟨by split <;> simp, ?_⟩
          have hback : ∀ ws2 : va_W, ws2 = zset (wS cI cZ s g ib fi sk lu (fun x => decide (met x ≠ 0)) (fun x => decide (met x = 1)) (hp + 1) bq fq sq (va_up look b (e0 + 1)) ++ wG cI g f t n m fr to) [0, 1, 2, 3, 4, 5, 6, 7] ((if decide (met (to e0) ≠ 0) = true then wS cI cZ s g ib fi sk lu (fun x => decide (met x ≠ 0)) (fun x => decide (met x = 1)) (hp + 1) (va_up bq e0 (decide (met (to e0) = 1))) fq sq (va_up look b (e0 + 1)) else wS cI cZ s g ib fi sk lu (va_up (fun x => decide (met x ≠ 0)) (to e0) true) (va_up (fun x => decide (met x = 1)) (to e0) true) (hp + 1 + 1) (va_up bq e0 (decide (met (to e0) = 1))) fq (va_up sq (hp + 1) (to e0)) (va_up (va_up look b (e0 + 1)) (to e0) 0)) ++ wG cI g f t n m fr to) → Z 0 0 40 [some (.ref s), some (.int (nI (k))), some (.int (nI (m + n))), some (.int (nI (i + 1))), none, none] [] ws2 := by
            intro ws2 hw2
            subst hw2
            have hse := ss_step_eq fr to m met look sq hp bq fq k b e0 hb hge
            rw [if_neg (by omega)] at hse
            by_cases hm0 : met (to e0) = 0
            · rw [if_pos hm0] at hse
              rw [if_neg (fun hc => (of_decide_eq_true hc) hm0)]
              have hz := ih (by omega) _ _ _ _ _ _ _ ((congrArg (ss_step fr to m) hx).trans hse)
              rw [zm_push0, zm_push1] at hz
              rw [show decide (met (to e0) = 1) = false from decide_eq_false (by omega)]
              exact hz
            · rw [if_neg hm0] at hse
              rw [if_pos (decide_eq_true hm0)]
              exact ih (by omega) _ _ _ _ _ _ _ ((congrArg (ss_step fr to m) hx).trans hse)
          refine z_iinc hX 3 dS_explore_145 rfl (zi_1 _) (by decide) ?_
          refine z_goto hX 40 dS_explore_148 rfl ?_
          exact z_le2 hX (hback _ rfl) (And.intro rfl (And.intro rfl (And.intro rfl (And.intro rfl trivial))))
        · have hc : m ≤ e0 := by
            by_cases hc : e0 < m
            · exact absurd ((zE_ge (by omega)).mpr hc) h85
            · omega
          refine z_aload_n hX 0 dS_explore_88 rfl rfl ?_
          refine z_dup hX dS_explore_89 rfl ?_
          refine z_get hX 0 7 rfl rfl (zu inS) (by decide) (List.mem_cons_of_mem _ mw_84) rfl dS_explore_90 ?_
          refine z_iconst hX (nI 1) dS_explore_93 rfl ?_
          refine z_isubN hX (by omega) dS_explore_94 ?_
          rw [Nat.add_sub_cancel]
          refine z_put hX 0 7 rfl rfl (zu inS) tyS tyS_ok nmS (by decide) (List.mem_cons_of_mem _ mw_84) (Or.inl rfl) rfl rfl rfl (Nat.le_of_ble_eq_true rfl) dS_explore_95 ?_
          refine z_aload_n hX 0 dS_explore_98 rfl rfl ?_
          refine z_dup hX dS_explore_99 rfl ?_
          refine z_get hX 0 6 rfl rfl (zu inS) (by decide) (List.mem_cons_of_mem _ mw_83) rfl dS_explore_100 ?_
          refine z_iload hX 4 dS_explore_103 rfl ?_
          refine z_Nr hX (kA_bit l D cI cZ b (by omega)) "SpanningProbes" mw_261 (by decide) mw_1 mw_260 rfl rfl ⟨by decide, by decide, rfl⟩ (by decide) rfl rfl (Nat.le_of_ble_eq_true rfl) dS_explore_105 (by decide) [] rfl rfl (fun v wn hv => ?_)
          obtain ⟨rfl, rfl⟩ := hv
          refine ⟨rfl, ?_⟩
          refine z_iconst hX (-1) dS_explore_108 rfl ?_
          refine z_ixor hX dS_explore_109 ?_
          refine z_iand hX dS_explore_110 ?_
          rw [bS_cut]
          refine z_put hX 0 6 rfl rfl (zu inS) tyS tyS_ok nmS (by decide) (List.mem_cons_of_mem _ mw_83) (Or.inl rfl) rfl rfl rfl (Nat.le_of_ble_eq_true rfl) dS_explore_111 ?_
          refine z_aload_n hX 0 dS_explore_114 rfl rfl ?_
          refine z_get hX 0 2 rfl rfl (zu inS) (by decide) (List.mem_cons_of_mem _ mw_78) rfl dS_explore_115 ?_
          refine z_iload_n hX 1 dS_explore_118 rfl rfl ?_
          refine z_iload hX 4 dS_explore_119 rfl ?_
          refine z_stN hX 2 0 _ _ rfl rfl rfl rfl (by omega) (by decide) dS_explore_121 ?_
          refine z_iinc hX 1 dS_explore_122 rfl (zi_1 _) (by decide) ?_
          have hback : ∀ ws2 : va_W, ws2 = wS cI cZ s g ib fi sk lu (fun x => decide (met x ≠ 0)) (va_up (fun x => decide (met x = 1)) b false) hp bq (va_up fq k b) sq look ++ wG cI g f t n m fr to → Z 0 0 40 [some (.ref s), some (.int (nI (k + 1))), some (.int (nI (m + n))), some (.int (nI (i + 1))), none, none] [] ws2 := by
            intro ws2 hw2
            subst hw2
            have hse := ss_step_eq fr to m met look sq hp bq fq k b e0 hb hge
            rw [if_pos hc] at hse
            have hz := ih (by omega) _ _ _ _ _ _ _ ((congrArg (ss_step fr to m) hx).trans hse)
            rw [zm_pop0 met hb1, zm_pop1] at hz
            exact hz
          refine z_goto hX 145 dS_explore_125 rfl ?_
          refine z_iinc hX 3 dS_explore_145 rfl (zi_1 _) (by decide) ?_
          refine z_goto hX 40 dS_explore_148 rfl ?_
          exact z_le2 hX (hback _ rfl) (And.intro rfl (And.intro rfl (And.intro rfl (And.intro rfl trivial))))
  have hz := hloop 0 (Nat.zero_le _) _ _ _ _ _ _ _ rfl
  rw [zm_start0, zm_start1] at hz
  refine z_le hX [some (.ref s), some (.int (nI (0))), some (.int (nI (m + n))), some (.int (nI (0))), none, none] (And.intro rfl (And.intro rfl (And.intro ?_ (And.intro rfl trivial)))) hz
  rfl
end
section
/-! words for trees -/
abbrev wT (cI cZ : ClassId) (tr g hs gr : Nat) (has : Nat → Bool) (grp : Nat → Nat) : va_W := [(tr, .inr (3, [.ref g, .ref hs, .ref gr])), (hs, .inl (cZ, 24, .inl (aB has))), (gr, .inl (cI, 12, .inl (aN grp)))]
def zjf (g : Nat → Nat) (kept gone i : Nat) : Nat → Nat := fun x => if x < i ∧ g x = gone then kept else g x
theorem zjf_0 (g : Nat → Nat) (kept gone : Nat) : zjf g kept gone 0 = g := by
  funext x
  exact if_neg (fun h => by omega)
theorem zjf_at (g : Nat → Nat) (kept gone i : Nat) : zjf g kept gone i i = g i := if_neg (fun h => by omega)
theorem zjf_hit {g : Nat → Nat} {kept gone i : Nat} (h : g i = gone) : zjf g kept gone (i + 1) = va_up (zjf g kept gone i) i kept := by
  funext x
  by_cases hx : x = i
  · subst hx
    rw [sp_up_s]
    exact if_pos ⟨by omega, h⟩
  · rw [sp_up_n _ _ hx]
    show (if x < i + 1 ∧ g x = gone then kept else g x) = (if x < i ∧ g x = gone then kept else g x)
    by_cases hc : x < i ∧ g x = gone
    · rw [if_pos hc, if_pos ⟨by omega, hc.2⟩]
    · rw [if_neg hc, if_neg (fun h2 => hc ⟨by omega, h2.2⟩)]
theorem zjf_miss {g : Nat → Nat} {kept gone i : Nat} (h : ¬ g i = gone) : zjf g kept gone (i + 1) = zjf g kept gone i := by
  funext x
  show (if x < i + 1 ∧ g x = gone then kept else g x) = (if x < i ∧ g x = gone then kept else g x)
  by_cases hc : x < i ∧ g x = gone
  · rw [if_pos hc, if_pos ⟨by omega, hc.2⟩]
  · rw [if_neg hc, if_neg (fun h2 => hc ⟨by
      by_cases hx : x = i
      · rw [hx] at h2; exact absurd h2.2 h
      · omega, h2.2⟩)]
def zid (g : Nat → Nat) (i : Nat) : Nat → Nat := fun x => if x < i then x else g x
theorem zid_0 (g : Nat → Nat) : zid g 0 = g := by
  funext x
  exact if_neg (by omega)
theorem zid_up (g : Nat → Nat) (i : Nat) : zid g (i + 1) = va_up (zid g i) i i := by
  funext x
  by_cases hx : x = i
  · subst hx; rw [sp_up_s]; exact if_pos (by omega)
  · rw [sp_up_n _ _ hx]
    show (if x < i + 1 then x else g x) = (if x < i then x else g x)
    by_cases hc : x < i
    · rw [if_pos hc, if_pos (by omega)]
    · rw [if_neg hc, if_neg (by omega)]
theorem zid_in {g : Nat → Nat} {n x : Nat} (h : x < n) : zid g n x = x := if_pos h
theorem sj_lab {n a b : Nat} {g : Nat → Nat} (ha : a < n) (hg : ∀ x, x < n → g x < n) : ∀ x, x < n → sj_join n g a b x < n := by
  intro x hx
  show (if x < n ∧ g x = g b then g a else g x) < n
  split
  · exact hg a ha
  · exact hg x hx
theorem st_lab {n k : Nat} {fr to ord : Nat → Nat} (hin : ∀ i, i < k → fr (ord i) < n ∧ to (ord i) < n) {g : Nat → Nat} {has : Nat → Bool} (hg : ∀ x, x < n → g x < n) : ∀ i, i ≤ k → ∀ x, x < n → (sp_it (st_g fr to ord n) i (g, has)).1 x < n := by
  intro i
  induction i with
  | zero => intro _ x hx; exact hg x hx
  | succ i ih =>
    intro hi x hx
    exact sj_lab (hin i (by omega)).1 (ih (by omega)) x hx
theorem bS_or2 (S : Nat → Bool) (a b : Nat) : bS S ||| bS (fun i => decide (i = a) || decide (i = b)) = bS (va_up (va_up S a true) b true) := by
  rw [bS_or]
  refine bS_congr (fun i _ => ?_)
  by_cases h1 : i = b
  · subst h1; rw [sp_up_s]; simp
  · rw [sp_up_n _ _ h1]
    by_cases h2 : i = a
    · subst h2; rw [sp_up_s]; simp
    · rw [sp_up_n _ _ h2]; simp [h1, h2]
theorem bS_meet {S : Nat → Bool} {a b : Nat} (ha : a < 31) (hb : b < 31) : bS S &&& bS (fun i => decide (i = a) || decide (i = b)) = 0 ↔ ¬ (S a = true ∨ S b = true) := by
  rw [bS_and, ← bS_none, bS_eq]
  constructor
  · intro h hc
    rcases hc with hc | hc
    · have := h a ha
      simp [hc] at this
    · have := h b hb
      simp [hc] at this
  · intro h i _
    cases hs : S i with
    | false => rfl
    | true =>
      have h1 : ¬ i = a := fun hc => h (Or.inl (by rw [← hc]; exact hs))
      have h2 : ¬ i = b := fun hc => h (Or.inr (by rw [← hc]; exact hs))
      simp [h1, h2]
theorem bS_01 : bS (fun i => decide (i = 0)) ||| bS (fun i => decide (i = 1)) = bS (fun b => decide (b = 0 ∨ b = 1)) := by
  rw [bS_or]
  refine bS_congr (fun i _ => ?_)
  by_cases h0 : i = 0
  · simp [h0]
  · by_cases h1 : i = 1
    · simp [h1]
    · simp [h0, h1]
end
section
/-! Tree -/
set_option maxHeartbeats 1000000 in
set_option maxRecDepth 100000 in
theorem kT_join (l : Launch) (D : va_G) (cI cZ : ClassId) (tr g hs gr : Nat) (has : Nat → Bool) (grp : Nat → Nat) (f t n m : Nat) (fr to : Nat → Nat) (a b : Nat) (ha : a < n) (hb : b < n) (hn : n ≤ 12) (hg : ∀ x, x < n → grp x < 2147483648) : zM l yT_join wT_join rT_join D zCl (zTy cI cZ) zNW 0 0 [.ref tr, .int (nI a), .int (nI b)] (wT cI cZ tr g hs gr (has) (grp) ++ wG cI g f t n m fr to) (fun v wn => v = some (.int (bN (decide (grp a ≠ grp b)))) ∧ wn = wT cI cZ tr g hs gr (has) (sj_join n grp a b) ++ wG cI g f t n m fr to) := by
  have hga := hg a ha
  have hgb := hg b hb
  refine z_met2 cT_join 6 (some .boolean) rfl rfl (Nat.le_of_ble_eq_true rfl) rfl (fun Z hX => ?_)
  show Z 0 0 0 [some (.ref tr), some (.int (nI a)), some (.int (nI b)), none, none, none] [] (wT cI cZ tr g hs gr (has) (grp) ++ wG cI g f t n m fr to)
  refine z_aload_n hX 0 dT_join_0 rfl rfl ?_
  refine z_get hX 0 2 rfl rfl (zu inT) (by decide) (List.mem_cons_of_mem _ mw_135) rfl dT_join_1 ?_
  refine z_iload_n hX 1 dT_join_4 rfl rfl ?_
  refine z_ldN hX 2 0 _ rfl rfl rfl (by omega) (by decide) dT_join_5 ?_
  refine z_istore_n hX 3 dT_join_6 rfl (by decide) ?_
  refine z_aload_n hX 0 dT_join_7 rfl rfl ?_
  refine z_get hX 0 2 rfl rfl (zu inT) (by decide) (List.mem_cons_of_mem _ mw_135) rfl dT_join_8 ?_
  refine z_iload_n hX 2 dT_join_11 rfl rfl ?_
  refine z_ldN hX 2 0 _ rfl rfl rfl (by omega) (by decide) dT_join_12 ?_
  refine z_istore hX 4 dT_join_13 (by decide) ?_
  refine z_iconst hX (nI 0) dT_join_15 rfl ?_
  refine z_istore hX 5 dT_join_16 (by decide) ?_
  have hloop : ∀ i, i ≤ n → Z 0 0 18 [some (.ref tr), some (.int (nI a)), some (.int (nI b)), some (.int (nI (grp a))), some (.int (nI (grp b))), some (.int (nI i))] [] (wT cI cZ tr g hs gr (has) (zjf grp (grp a) (grp b) i) ++ wG cI g f t n m fr to) := by
    refine zloop (P := fun i => Z 0 0 18 [some (.ref tr), some (.int (nI a)), some (.int (nI b)), some (.int (nI (grp a))), some (.int (nI (grp b))), some (.int (nI i))] [] (wT cI cZ tr g hs gr (has) (zjf grp (grp a) (grp b) i) ++ wG cI g f t n m fr to)) n (fun i hi ih => ?_)
    refine z_iload hX 5 dT_join_18 rfl ?_
    refine z_aload_n hX 0 dT_join_20 rfl rfl ?_
    refine z_get hX 0 0 rfl rfl (zu inT) (by decide) (List.mem_cons_of_mem _ mw_130) rfl dT_join_21 ?_
    refine z_get hX 3 0 rfl rfl (zu inG) (by decide) (List.mem_cons_of_mem _ mw_32) rfl dT_join_24 ?_
    refine z_icmp_geN hX 56 (by omega) (by omega) dT_join_27 rfl (fun h27 => ?_) (fun h27 => ?_)
    · have him : i = n := by omega
      subst him
      refine z_iload_n hX 3 dT_join_56 rfl rfl ?_
      refine z_iload hX 4 dT_join_57 rfl ?_
      refine z_icmp_eqN hX 66 (by omega) (by omega) dT_join_59 rfl (fun h59 => ?_) (fun h59 => ?_)
      · have hr : decide (grp a ≠ grp b) = false := decide_eq_false (fun hc => hc h59)
        refine z_iconst hX (bN false) dT_join_66 rfl ?_
        refine z_iret hX rfl (bN_n _) rfl rfl dT_join_67 ?_
        exact ⟨by rw [hr], rfl⟩
      · have hr : decide (grp a ≠ grp b) = true := decide_eq_true h59
        refine z_iconst hX (bN true) dT_join_62 rfl ?_
        refine z_goto hX 67 dT_join_63 rfl ?_
        refine z_iret hX rfl (bN_n _) rfl rfl dT_join_67 ?_
        exact ⟨by rw [hr], rfl⟩
    · have hgi := hg i (by omega)
      refine z_aload_n hX 0 dT_join_30 rfl rfl ?_
      refine z_get hX 0 2 rfl rfl (zu inT) (by decide) (List.mem_cons_of_mem _ mw_135) rfl dT_join_31 ?_
      refine z_iload hX 5 dT_join_34 rfl ?_
      refine z_ldN hX 2 0 _ rfl rfl rfl (by omega) (by decide) dT_join_36 ?_
      rw [zjf_at]
      refine z_iload hX 4 dT_join_37 rfl ?_
      refine z_icmp_neN hX 50 (by omega) (by omega) dT_join_39 rfl (fun h39 => ?_) (fun h39 => ?_)
      · have hs2 := zjf_miss (g := grp) (kept := grp a) (gone := grp b) h39
        refine z_iinc hX 5 dT_join_50 rfl (zi_1 _) (by decide) ?_
        refine z_goto hX 18 dT_join_53 rfl ?_
        have hz := ih (by omega)
        rw [hs2] at hz
        exact hz
      · have hs2 := zjf_hit (g := grp) (kept := grp a) (gone := grp b) h39
        refine z_aload_n hX 0 dT_join_42 rfl rfl ?_
        refine z_get hX 0 2 rfl rfl (zu inT) (by decide) (List.mem_cons_of_mem _ mw_135) rfl dT_join_43 ?_
        refine z_iload hX 5 dT_join_46 rfl ?_
        refine z_iload_n hX 3 dT_join_48 rfl rfl ?_
        refine z_stN hX 2 0 _ _ rfl rfl rfl rfl (by omega) (by decide) dT_join_49 ?_
        refine z_iinc hX 5 dT_join_50 rfl (zi_1 _) (by decide) ?_
        refine z_goto hX 18 dT_join_53 rfl ?_
        have hz := ih (by omega)
        rw [hs2] at hz
        exact hz
  have hz := hloop 0 (Nat.zero_le _)
  rw [zjf_0] at hz
  exact hz

set_option maxHeartbeats 1000000 in
set_option maxRecDepth 100000 in
theorem kT_grow (l : Launch) (D : va_G) (cI cZ : ClassId) (tr g hs gr : Nat) (has : Nat → Bool) (grp : Nat → Nat) (f t n m : Nat) (fr to : Nat → Nat) (od : Nat) (ord : Nat → Nat) (many : Nat) (hn : 2 ≤ n ∧ n ≤ 12) (hmany : many ≤ 24) (hin : ∀ i, i < many → ord i < 24 ∧ fr (ord i) < n ∧ to (ord i) < n) : zM l yT_grow wT_grow rT_grow D zCl (zTy cI cZ) zNW 0 0 [.ref tr, .ref od, .int (nI many)] (wT cI cZ tr g hs gr (has) (grp) ++ wG cI g f t n m fr to ++ [(od, .inl (cI, 24, .inl (aN ord)))]) (fun v wn => v = none ∧ wn = wT cI cZ tr g hs gr ((sp_it (st_g fr to ord n) many (sj_join n (zid grp n) 0 1, has)).2) ((sp_it (st_g fr to ord n) many (sj_join n (zid grp n) 0 1, has)).1) ++ wG cI g f t n m fr to ++ [(od, .inl (cI, 24, .inl (aN ord)))]) := by
  have hl0 : ∀ x, x < n → zid grp n x < n := fun x hx => by rw [zid_in hx]; exact hx
  have hl1 : ∀ x, x < n → sj_join n (zid grp n) 0 1 x < n := sj_lab (by omega) hl0
  have hlab := st_lab (k := many) (fun i hi => (hin i hi).2) (has := has) hl1
  refine z_met2 cT_grow 5 none rfl rfl (Nat.le_of_ble_eq_true rfl) rfl (fun Z hX => ?_)
  show Z 0 0 0 [some (.ref tr), some (.ref od), some (.int (nI many)), none, none] [] (wT cI cZ tr g hs gr (has) (grp) ++ wG cI g f t n m fr to ++ [(od, .inl (cI, 24, .inl (aN ord)))])
  refine z_iconst hX (nI 0) dT_grow_0 rfl ?_
  refine z_istore_n hX 3 dT_grow_1 rfl (by decide) ?_
  have hloop : ∀ i, i ≤ n → Z 0 0 2 [some (.ref tr), some (.ref od), some (.int (nI many)), some (.int (nI i)), none] [] (wT cI cZ tr g hs gr (has) (zid grp i) ++ wG cI g f t n m fr to ++ [(od, .inl (cI, 24, .inl (aN ord)))]) := by
    refine zloop (P := fun i => Z 0 0 2 [some (.ref tr), some (.ref od), some (.int (nI many)), some (.int (nI i)), none] [] (wT cI cZ tr g hs gr (has) (zid grp i) ++ wG cI g f t n m fr to ++ [(od, .inl (cI, 24, .inl (aN ord)))])) n (fun i hi ih => ?_)
    refine z_iload_n hX 3 dT_grow_2 rfl rfl ?_
    refine z_aload_n hX 0 dT_grow_3 rfl rfl ?_
    refine z_get hX 0 0 rfl rfl (zu inT) (by decide) (List.mem_cons_of_mem _ mw_130) rfl dT_grow_4 ?_
    refine z_get hX 3 0 rfl rfl (zu inG) (by decide) (List.mem_cons_of_mem _ mw_32) rfl dT_grow_7 ?_
    refine z_icmp_geN hX 26 (by omega) (by omega) dT_grow_10 rfl (fun h10 => ?_) (fun h10 => ?_)
    · have him : i = n := by omega
      rw [him]
      refine z_aload_n hX 0 dT_grow_26 rfl rfl ?_
      refine z_iconst hX (nI 0) dT_grow_27 rfl ?_
      refine z_iconst hX (nI 1) dT_grow_28 rfl ?_
      refine z_Vm hX (kT_join l D cI cZ tr g hs gr has (zid grp n) f t n m fr to 0 1 (by omega) (by omega) (by omega) (fun x hx => by have := hl0 x hx; omega)) mw_336 mw_338 mp_1_8 mw_6 mw_339 rfl rfl ⟨rfl, by decide, by decide, rfl⟩ (by decide) 0 rfl rfl rfl rfl (Nat.le_of_ble_eq_true rfl) dT_grow_29 (by decide) [0, 1, 2, 3, 4, 5] rfl rfl (fun v wn hv => ?_)
      obtain ⟨rfl, rfl⟩ := hv
      refine ⟨by simp, ?_⟩
      refine z_pop hX dT_grow_32 rfl ?_
      refine z_iconst hX (nI 0) dT_grow_33 rfl ?_
      refine z_istore_n hX 3 dT_grow_34 rfl (by decide) ?_
      refine zloop (P := fun i => Z 0 0 35 [some (.ref tr), some (.ref od), some (.int (nI many)), some (.int (nI i)), none] [] (wT cI cZ tr g hs gr ((sp_it (st_g fr to ord n) i (sj_join n (zid grp n) 0 1, has)).2) ((sp_it (st_g fr to ord n) i (sj_join n (zid grp n) 0 1, has)).1) ++ wG cI g f t n m fr to ++ [(od, .inl (cI, 24, .inl (aN ord)))])) many (fun i hi2 ih2 => ?_) 0 (Nat.zero_le _)
      refine z_iload_n hX 3 dT_grow_35 rfl rfl ?_
      refine z_iload_n hX 2 dT_grow_36 rfl rfl ?_
      refine z_icmp_geN hX 82 (by omega) (by omega) dT_grow_37 rfl (fun h37 => ?_) (fun h37 => ?_)
      · refine z_vret hX rfl rfl rfl dT_grow_82 ?_
        rw [show many = i by omega]
        exact ⟨rfl, rfl⟩
      · have hini := hin i (by omega)
        refine z_aload_n hX 1 dT_grow_40 rfl rfl ?_
        refine z_iload_n hX 3 dT_grow_41 rfl rfl ?_
        refine z_ldN hX 6 0 _ rfl rfl rfl (by omega) (by decide) dT_grow_42 ?_
        refine z_istore hX 4 dT_grow_43 (by decide) ?_
        refine z_aload_n hX 0 dT_grow_45 rfl rfl ?_
        refine z_get hX 0 1 rfl rfl (zu inT) (by decide) (List.mem_cons_of_mem _ mw_131) rfl dT_grow_46 ?_
        refine z_iload hX 4 dT_grow_49 rfl ?_
        refine z_aload_n hX 0 dT_grow_51 rfl rfl ?_
        refine z_aload_n hX 0 dT_grow_52 rfl rfl ?_
        refine z_get hX 0 0 rfl rfl (zu inT) (by decide) (List.mem_cons_of_mem _ mw_130) rfl dT_grow_53 ?_
        refine z_get hX 3 1 rfl rfl (zu inG) (by decide) (List.mem_cons_of_mem _ mw_38) rfl dT_grow_56 ?_
        refine z_iload hX 4 dT_grow_59 rfl ?_
        refine z_ldN hX 4 0 _ rfl rfl rfl (by omega) (by decide) dT_grow_61 ?_
        refine z_aload_n hX 0 dT_grow_62 rfl rfl ?_
        refine z_get hX 0 0 rfl rfl (zu inT) (by decide) (List.mem_cons_of_mem _ mw_130) rfl dT_grow_63 ?_
        refine z_get hX 3 2 rfl rfl (zu inG) (by decide) (List.mem_cons_of_mem _ mw_45) rfl dT_grow_66 ?_
        refine z_iload hX 4 dT_grow_69 rfl ?_
        refine z_ldN hX 5 0 _ rfl rfl rfl (by omega) (by decide) dT_grow_71 ?_
        refine z_Vm hX (kT_join l D cI cZ tr g hs gr (sp_it (st_g fr to ord n) i (sj_join n (zid grp n) 0 1, has)).2 (sp_it (st_g fr to ord n) i (sj_join n (zid grp n) 0 1, has)).1 f t n m fr to (fr (ord i)) (to (ord i)) (by omega) (by omega) (by omega) (fun x hx => by have := hlab i (by omega) x hx; omega)) mw_336 mw_338 mp_1_8 mw_6 mw_339 rfl rfl ⟨rfl, by decide, by decide, rfl⟩ (by decide) 0 rfl rfl rfl rfl (Nat.le_of_ble_eq_true rfl) dT_grow_72 (by decide) [0, 1, 2, 3, 4, 5] rfl rfl (fun v wn hv => ?_)
        obtain ⟨rfl, rfl⟩ := hv
        refine ⟨by simp, ?_⟩
        refine z_stB hX 1 1 _ _ rfl rfl rfl rfl (by omega) (by decide) dT_grow_75 ?_
        refine z_iinc hX 3 dT_grow_76 rfl (zi_1 _) (by decide) ?_
        refine z_goto hX 35 dT_grow_79 rfl ?_
        exact z_le2 hX (ih2 (by omega)) (And.intro rfl (And.intro rfl (And.intro rfl (And.intro rfl trivial))))
    · refine z_aload_n hX 0 dT_grow_13 rfl rfl ?_
      refine z_get hX 0 2 rfl rfl (zu inT) (by decide) (List.mem_cons_of_mem _ mw_135) rfl dT_grow_14 ?_
      refine z_iload_n hX 3 dT_grow_17 rfl rfl ?_
      refine z_iload_n hX 3 dT_grow_18 rfl rfl ?_
      refine z_stN hX 2 0 _ _ rfl rfl rfl rfl (by omega) (by decide) dT_grow_19 ?_
      refine z_iinc hX 3 dT_grow_20 rfl (zi_1 _) (by decide) ?_
      refine z_goto hX 2 dT_grow_23 rfl ?_
      have hz := ih (by omega)
      rw [zid_up] at hz
      exact hz
  have hz := hloop 0 (Nat.zero_le _)
  rw [zid_0] at hz
  exact hz

set_option maxHeartbeats 1000000 in
set_option maxRecDepth 100000 in
theorem kT_blocksBehind (l : Launch) (D : va_G) (cI cZ : ClassId) (tr g hs gr : Nat) (has : Nat → Bool) (grp : Nat → Nat) (f t n m : Nat) (fr to : Nat → Nat) (cut : Nat) (hc24 : cut < 24) (hn : 2 ≤ n ∧ n ≤ 12) (hm : m ≤ 24) (hok : ∀ e, e < m → fr e < n ∧ to e < n) : zM l yT_blocksBehind wT_blocksBehind rT_blocksBehind D zCl (zTy cI cZ) zNW 0 0 [.ref tr, .int (nI cut)] (wT cI cZ tr g hs gr (has) (grp) ++ wG cI g f t n m fr to) (fun v wn => v = some (.int (bS (fun i => decide (i < n) && !sb_near fr to has cut m n i))) ∧ wn = wT cI cZ tr g hs gr (has) (grp) ++ wG cI g f t n m fr to) := by
  refine z_met2 cT_blocksBehind 6 (some .int) rfl rfl (Nat.le_of_ble_eq_true rfl) rfl (fun Z hX => ?_)
  show Z 0 0 0 [some (.ref tr), some (.int (nI cut)), none, none, none, none] [] (wT cI cZ tr g hs gr (has) (grp) ++ wG cI g f t n m fr to)
  refine z_iconst hX (nI 0) dT_blocksBehind_0 rfl ?_
  refine z_Nr hX (kA_bit l D cI cZ 0 (by omega)) "SpanningProbes" mw_261 (by decide) mw_1 mw_260 rfl rfl ⟨by decide, by decide, rfl⟩ (by decide) rfl rfl (Nat.le_of_ble_eq_true rfl) dT_blocksBehind_1 (by decide) [] rfl rfl (fun v wn hv => ?_)
  obtain ⟨rfl, rfl⟩ := hv
  refine ⟨rfl, ?_⟩
  refine z_iconst hX (nI 1) dT_blocksBehind_4 rfl ?_
  refine z_Nr hX (kA_bit l D cI cZ 1 (by omega)) "SpanningProbes" mw_261 (by decide) mw_1 mw_260 rfl rfl ⟨by decide, by decide, rfl⟩ (by decide) rfl rfl (Nat.le_of_ble_eq_true rfl) dT_blocksBehind_5 (by decide) [] rfl rfl (fun v wn hv => ?_)
  obtain ⟨rfl, rfl⟩ := hv
  refine ⟨rfl, ?_⟩
  refine z_ior hX dT_blocksBehind_8 ?_
  rw [bS_01]
  refine z_istore_n hX 2 dT_blocksBehind_9 rfl (by decide) ?_
  refine z_iconst hX (nI 1) dT_blocksBehind_10 rfl ?_
  refine z_istore_n hX 3 dT_blocksBehind_11 rfl (by decide) ?_
  refine zloop (P := fun j => Z 0 0 12 [some (.ref tr), some (.int (nI cut)), some (.int (bS (sp_it (fun _ => sb_r fr to has cut m) j (fun b => decide (b = 0 ∨ b = 1))))), some (.int (nI (j + 1))), none, none] [] (wT cI cZ tr g hs gr (has) (grp) ++ wG cI g f t n m fr to)) (n - 1) (fun j hj ih => ?_) 0 (Nat.zero_le _)
  refine z_iload_n hX 3 dT_blocksBehind_12 rfl rfl ?_
  refine z_aload_n hX 0 dT_blocksBehind_13 rfl rfl ?_
  refine z_get hX 0 0 rfl rfl (zu inT) (by decide) (List.mem_cons_of_mem _ mw_130) rfl dT_blocksBehind_14 ?_
  refine z_get hX 3 0 rfl rfl (zu inG) (by decide) (List.mem_cons_of_mem _ mw_32) rfl dT_blocksBehind_17 ?_
  refine z_icmp_geN hX 107 (by omega) (by omega) dT_blocksBehind_20 rfl (fun h20 => ?_) (fun h20 => ?_)
  · refine z_aload_n hX 0 dT_blocksBehind_107 rfl rfl ?_
    refine z_get hX 0 0 rfl rfl (zu inT) (by decide) (List.mem_cons_of_mem _ mw_130) rfl dT_blocksBehind_108 ?_
    refine z_Vr hX (kG_allBlocks l D cI cZ g f t n m fr to (by omega)) mw_349 mw_278 mw_279 mw_2 mw_280 rfl rfl ⟨rfl, by decide, by decide, rfl⟩ (by decide) 3 rfl rfl rfl rfl (Nat.le_of_ble_eq_true rfl) dT_blocksBehind_111 (by decide) [3, 4, 5] rfl rfl (fun v wn hv => ?_)
    obtain ⟨rfl, rfl⟩ := hv
    refine ⟨rfl, ?_⟩
    refine z_iload_n hX 2 dT_blocksBehind_114 rfl rfl ?_
    refine z_iconst hX (-1) dT_blocksBehind_115 rfl ?_
    refine z_ixor hX dT_blocksBehind_116 ?_
    refine z_iand hX dT_blocksBehind_117 ?_
    rw [bS_andn]
    refine z_iret hX rfl rfl rfl rfl dT_blocksBehind_118 ?_
    rw [show j = n - 1 by omega]
    exact ⟨rfl, rfl⟩
  · refine z_iconst hX (nI 0) dT_blocksBehind_23 rfl ?_
    refine z_istore hX 4 dT_blocksBehind_24 (by decide) ?_
    refine zloop (P := fun e => Z 0 0 26 [some (.ref tr), some (.int (nI cut)), some (.int (bS (sp_it (sb_s fr to has cut) e (sp_it (fun _ => sb_r fr to has cut m) j (fun b => decide (b = 0 ∨ b = 1)))))), some (.int (nI (j + 1))), some (.int (nI e)), none] [] (wT cI cZ tr g hs gr (has) (grp) ++ wG cI g f t n m fr to)) m (fun e he ih2 => ?_) 0 (Nat.zero_le _)
    refine z_iload hX 4 dT_blocksBehind_26 rfl ?_
    refine z_aload_n hX 0 dT_blocksBehind_28 rfl rfl ?_
    refine z_get hX 0 0 rfl rfl (zu inT) (by decide) (List.mem_cons_of_mem _ mw_130) rfl dT_blocksBehind_29 ?_
    refine z_get hX 3 3 rfl rfl (zu inG) (by decide) (List.mem_cons_of_mem _ mw_55) rfl dT_blocksBehind_32 ?_
    refine z_icmp_geN hX 101 (by omega) (by omega) dT_blocksBehind_35 rfl (fun h35 => ?_) (fun h35 => ?_)
    · refine z_iinc hX 3 dT_blocksBehind_101 rfl (zi_1 _) (by decide) ?_
      refine z_goto hX 12 dT_blocksBehind_104 rfl ?_
      refine z_le2 hX (ih (by omega)) (And.intro rfl (And.intro rfl (And.intro ?_ (And.intro rfl trivial))))
      rw [show m = e by omega]
      rfl
    · have hoke := hok e (by omega)
      refine z_aload_n hX 0 dT_blocksBehind_38 rfl rfl ?_
      refine z_get hX 0 0 rfl rfl (zu inT) (by decide) (List.mem_cons_of_mem _ mw_130) rfl dT_blocksBehind_39 ?_
      refine z_get hX 3 1 rfl rfl (zu inG) (by decide) (List.mem_cons_of_mem _ mw_38) rfl dT_blocksBehind_42 ?_
      refine z_iload hX 4 dT_blocksBehind_45 rfl ?_
      refine z_ldN hX 4 0 _ rfl rfl rfl (by omega) (by decide) dT_blocksBehind_47 ?_
      refine z_Nr hX (kA_bit l D cI cZ (fr e) (by omega)) "SpanningProbes" mw_261 (by decide) mw_1 mw_260 rfl rfl ⟨by decide, by decide, rfl⟩ (by decide) rfl rfl (Nat.le_of_ble_eq_true rfl) dT_blocksBehind_48 (by decide) [] rfl rfl (fun v wn hv => ?_)
      obtain ⟨rfl, rfl⟩ := hv
      refine ⟨rfl, ?_⟩
      refine z_aload_n hX 0 dT_blocksBehind_51 rfl rfl ?_
      refine z_get hX 0 0 rfl rfl (zu inT) (by decide) (List.mem_cons_of_mem _ mw_130) rfl dT_blocksBehind_52 ?_
      refine z_get hX 3 2 rfl rfl (zu inG) (by decide) (List.mem_cons_of_mem _ mw_45) rfl dT_blocksBehind_55 ?_
      refine z_iload hX 4 dT_blocksBehind_58 rfl ?_
      refine z_ldN hX 5 0 _ rfl rfl rfl (by omega) (by decide) dT_blocksBehind_60 ?_
      refine z_Nr hX (kA_bit l D cI cZ (to e) (by omega)) "SpanningProbes" mw_261 (by decide) mw_1 mw_260 rfl rfl ⟨by decide, by decide, rfl⟩ (by decide) rfl rfl (Nat.le_of_ble_eq_true rfl) dT_blocksBehind_61 (by decide) [] rfl rfl (fun v wn hv => ?_)
      obtain ⟨rfl, rfl⟩ := hv
      refine ⟨rfl, ?_⟩
      refine z_ior hX dT_blocksBehind_64 ?_
      rw [bS_or]
      refine z_istore hX 5 dT_blocksBehind_65 (by decide) ?_
      refine z_aload_n hX 0 dT_blocksBehind_67 rfl rfl ?_
      refine z_get hX 0 1 rfl rfl (zu inT) (by decide) (List.mem_cons_of_mem _ mw_131) rfl dT_blocksBehind_68 ?_
      refine z_iload hX 4 dT_blocksBehind_71 rfl ?_
      refine z_ldB hX 1 1 _ rfl rfl rfl (by omega) (by decide) dT_blocksBehind_73 ?_
      refine z_if_eqB hX 95 dT_blocksBehind_74 rfl (fun h74 => ?_) (fun h74 => ?_)
      · have hs2 : sp_it (sb_s fr to has cut) (e + 1) (sp_it (fun _ => sb_r fr to has cut m) j (fun b => decide (b = 0 ∨ b = 1))) = sp_it (sb_s fr to has cut) e (sp_it (fun _ => sb_r fr to has cut m) j (fun b => decide (b = 0 ∨ b = 1))) := if_neg (fun hc => by rw [h74] at hc; exact absurd hc.1 (by decide))
        refine z_iinc hX 4 dT_blocksBehind_95 rfl (zi_1 _) (by decide) ?_
        refine z_goto hX 26 dT_blocksBehind_98 rfl ?_
        have hz := ih2 (by omega)
        rw [hs2] at hz
        exact z_le2 hX hz (And.intro rfl (And.intro rfl (And.intro rfl (And.intro rfl (And.intro rfl trivial)))))
      · refine z_iload hX 4 dT_blocksBehind_77 rfl ?_
        refine z_iload_n hX 1 dT_blocksBehind_79 rfl rfl ?_
        refine z_icmp_eqN hX 95 (by omega) (by omega) dT_blocksBehind_80 rfl (fun h80 => ?_) (fun h80 => ?_)
        · have hs2 : sp_it (sb_s fr to has cut) (e + 1) (sp_it (fun _ => sb_r fr to has cut m) j (fun b => decide (b = 0 ∨ b = 1))) = sp_it (sb_s fr to has cut) e (sp_it (fun _ => sb_r fr to has cut m) j (fun b => decide (b = 0 ∨ b = 1))) := if_neg (fun hc => hc.2.1 h80)
          refine z_iinc hX 4 dT_blocksBehind_95 rfl (zi_1 _) (by decide) ?_
          refine z_goto hX 26 dT_blocksBehind_98 rfl ?_
          have hz := ih2 (by omega)
          rw [hs2] at hz
          exact z_le2 hX hz (And.intro rfl (And.intro rfl (And.intro rfl (And.intro rfl (And.intro rfl trivial)))))
        · refine z_iload_n hX 2 dT_blocksBehind_83 rfl rfl ?_
          refine z_iload hX 5 dT_blocksBehind_84 rfl ?_
          refine z_iand hX dT_blocksBehind_86 ?_
          refine z_if_eq hX 95 dT_blocksBehind_87 rfl (fun h87 => ?_) (fun h87 => ?_)
          · have hs2 : sp_it (sb_s fr to has cut) (e + 1) (sp_it (fun _ => sb_r fr to has cut m) j (fun b => decide (b = 0 ∨ b = 1))) = sp_it (sb_s fr to has cut) e (sp_it (fun _ => sb_r fr to has cut m) j (fun b => decide (b = 0 ∨ b = 1))) := if_neg (fun hc => (bS_meet (by omega) (by omega)).mp h87 hc.2.2)
            refine z_iinc hX 4 dT_blocksBehind_95 rfl (zi_1 _) (by decide) ?_
            refine z_goto hX 26 dT_blocksBehind_98 rfl ?_
            have hz := ih2 (by omega)
            rw [hs2] at hz
            exact z_le2 hX hz (And.intro rfl (And.intro rfl (And.intro rfl (And.intro rfl (And.intro rfl trivial)))))
          · have hs2 : sp_it (sb_s fr to has cut) (e + 1) (sp_it (fun _ => sb_r fr to has cut m) j (fun b => decide (b = 0 ∨ b = 1))) = va_up (va_up (sp_it (sb_s fr to has cut) e (sp_it (fun _ => sb_r fr to has cut m) j (fun b => decide (b = 0 ∨ b = 1)))) (fr e) true) (to e) true := if_pos ⟨h74, h80, Classical.byContradiction (fun hc => h87 ((bS_meet (by omega) (by omega)).mpr hc))⟩
            refine z_iload_n hX 2 dT_blocksBehind_90 rfl rfl ?_
            refine z_iload hX 5 dT_blocksBehind_91 rfl ?_
            refine z_ior hX dT_blocksBehind_93 ?_
            rw [bS_or2]
            refine z_istore_n hX 2 dT_blocksBehind_94 rfl (by decide) ?_
            refine z_iinc hX 4 dT_blocksBehind_95 rfl (zi_1 _) (by decide) ?_
            refine z_goto hX 26 dT_blocksBehind_98 rfl ?_
            have hz := ih2 (by omega)
            rw [hs2] at hz
            exact z_le2 hX hz (And.intro rfl (And.intro rfl (And.intro rfl (And.intro rfl (And.intro rfl trivial)))))
end
section
/-! words for Loops -/
abbrev wO (cI : ClassId) (lo g s dp od : Nat) (dep ord : Nat → Nat) : va_W := [(lo, .inr (2, [.ref g, .ref s, .ref dp, .ref od])), (dp, .inl (cI, 12, .inl (aN dep))), (od, .inl (cI, 24, .inl (aN ord)))]
/-- the blocks of the loop of edge e -/
def zlp (fr to : Nat → Nat) (m n e : Nat) : Nat → Bool := fun i => decide (i = to e) || sp_it (fun _ => sr_r fr to (some (to e)) m) (n - 1) (zS0 (fr e) (some (to e))) i
def zdp (dep : Nat → Nat) (S : Nat → Bool) (i : Nat) : Nat → Nat := fun x => if x < i ∧ S x = true then dep x + 1 else dep x
theorem zdp_0 (dep : Nat → Nat) (S : Nat → Bool) : zdp dep S 0 = dep := by
  funext x
  exact if_neg (fun h => by omega)
theorem zdp_at (dep : Nat → Nat) (S : Nat → Bool) (i : Nat) : zdp dep S i i = dep i := if_neg (fun h => by omega)
theorem zdp_hit {dep : Nat → Nat} {S : Nat → Bool} {i : Nat} (h : S i = true) : zdp dep S (i + 1) = va_up (zdp dep S i) i (dep i + 1) := by
  funext x
  by_cases hx : x = i
  · subst hx
    rw [sp_up_s]
    exact if_pos ⟨by omega, h⟩
  · rw [sp_up_n _ _ hx]
    show (if x < i + 1 ∧ S x = true then dep x + 1 else dep x) = (if x < i ∧ S x = true then dep x + 1 else dep x)
    by_cases hc : x < i ∧ S x = true
    · rw [if_pos hc, if_pos ⟨by omega, hc.2⟩]
    · rw [if_neg hc, if_neg (fun h2 => hc ⟨by omega, h2.2⟩)]
theorem zdp_miss {dep : Nat → Nat} {S : Nat → Bool} {i : Nat} (h : S i = false) : zdp dep S (i + 1) = zdp dep S i := by
  funext x
  show (if x < i + 1 ∧ S x = true then dep x + 1 else dep x) = (if x < i ∧ S x = true then dep x + 1 else dep x)
  by_cases hc : x < i ∧ S x = true
  · rw [if_pos hc, if_pos ⟨by omega, hc.2⟩]
  · rw [if_neg hc, if_neg (fun h2 => hc ⟨by
      by_cases hx : x = i
      · rw [hx, h] at h2; exact absurd h2.2 (by decide)
      · omega, h2.2⟩)]
def zde (fr to : Nat → Nat) (bk : Nat → Bool) (m n e : Nat) (d : Nat → Nat) : Nat → Nat := if bk e = true then zdp d (zlp fr to m n e) n else d
theorem zde_le (fr to : Nat → Nat) (bk : Nat → Bool) (m n : Nat) : ∀ e x, sp_it (zde fr to bk m n) e (fun _ => 0) x ≤ e := by
  intro e
  induction e with
  | zero => intro x; exact Nat.le_refl 0
  | succ e ih =>
    intro x
    have h := ih x
    show zde fr to bk m n e (sp_it (zde fr to bk m n) e (fun _ => 0)) x ≤ e + 1
    unfold zde
    split
    · show (if x < n ∧ _ then _ else _) ≤ e + 1
      split
      · exact Nat.succ_le_succ h
      · exact Nat.le_succ_of_le h
    · exact Nat.le_succ_of_le h
def zwt (fr to dep : Nat → Nat) (e : Nat) : Nat := min (dep (fr e)) (dep (to e))
theorem zmin {a b : Nat} (ha : a < 2147483648) (hb : b < 2147483648) : (if nI b < nI a then nI b else nI a) = nI (min a b) := by
  by_cases h : b < a
  · rw [if_pos ((nI_ltI hb ha).mpr h), Nat.min_eq_right (by omega)]
  · rw [if_neg (fun hc => h ((nI_ltI hb ha).mp hc)), Nat.min_eq_left (by omega)]
abbrev so_t (w : Nat → Nat) (m j : Nat) (o : Nat → Nat) : (Nat → Nat) × Nat := sp_it (fun j t => sp_it (so_in w (m - j)) m t) j (o, 0)
theorem so_inner {w : Nat → Nat} {m j : Nat} (hj : j ≤ m) (t : (Nat → Nat) × Nat) (ht : t.2 = sp_cnt (fun f => decide (m < w f + j)) m) : ∀ e, e ≤ m → (sp_it (so_in w (m - j)) e t).2 = sp_cnt (fun f => decide (m - j < w f ∨ (w f = m - j ∧ f < e))) m := by
  intro e
  induction e with
  | zero =>
    intro _
    show t.2 = _
    rw [ht]
    exact sp_cnt_congr (fun f _ => decide_eq_decide.mpr (by omega))
  | succ e ih =>
    intro he
    have h1 := ih (by omega)
    show (so_in w (m - j) e (sp_it (so_in w (m - j)) e t)).2 = _
    generalize sp_it (so_in w (m - j)) e t = u at h1 ⊢
    unfold so_in
    by_cases hwi : w e = m - j
    · rw [if_pos hwi]
      show _ + 1 = _
      rw [h1]
      exact (sp_cnt_up (p := fun f => decide (m - j < w f ∨ (w f = m - j ∧ f < e))) (q := fun f => decide (m - j < w f ∨ (w f = m - j ∧ f < e + 1))) (show e < m by omega) (decide_eq_false (by omega)) (decide_eq_true (by omega)) (fun f _ hf => decide_eq_decide.mpr (by omega))).symm
    · rw [if_neg hwi, h1]
      refine sp_cnt_congr (fun f _ => decide_eq_decide.mpr ?_)
      by_cases hfe : f = e
      · rw [hfe]; omega
      · omega
theorem so_outer {w : Nat → Nat} {m : Nat} (hw : ∀ f, f < m → w f ≤ m) (o : Nat → Nat) : ∀ j, j ≤ m + 1 → (so_t w m j o).2 = sp_cnt (fun f => decide (m < w f + j)) m := by
  intro j
  induction j with
  | zero =>
    intro _
    show 0 = _
    rw [sp_cnt_none (fun f hf => decide_eq_false (by have := hw f hf; omega))]
  | succ j ih =>
    intro hj
    show (sp_it (so_in w (m - j)) m (so_t w m j o)).2 = _
    rw [so_inner (by omega) _ (ih (by omega)) m (Nat.le_refl m)]
    exact sp_cnt_congr (fun f hf => decide_eq_decide.mpr (by omega))
/-- at the place of writing there is room -/
theorem so_room {w : Nat → Nat} {m : Nat} (hw : ∀ f, f < m → w f ≤ m) (o : Nat → Nat) {j e : Nat} (hj : j ≤ m) (he : e < m) (hwe : w e = m - j) : (sp_it (so_in w (m - j)) e (so_t w m j o)).2 < m := by
  rw [so_inner hj _ (so_outer hw o j (by omega)) e (by omega)]
  have h := sp_cnt_lt (p := fun f => decide (m - j < w f ∨ (w f = m - j ∧ f < e))) (q := fun _ => true) (k := m) (j := e) (fun _ _ _ => rfl) he rfl (fun hc => by have := of_decide_eq_true hc; omega)
  rw [sp_cnt_true] at h
  exact h
def zdn (m j : Nat) : Int32 := if j ≤ m then nI (m - j) else -1
theorem zdn_in {m j : Nat} (h : j ≤ m) : zdn m j = nI (m - j) := if_pos h
theorem zdn_lt {m j : Nat} (hm : m < 2147483648) : zdn m j < 0 ↔ m < j := by
  unfold zdn
  by_cases h : j ≤ m
  · rw [if_pos h]
    exact ⟨fun hc => absurd hc (nI_pos (by omega)), fun hc => absurd h (by omega)⟩
  · rw [if_neg h]
    exact ⟨fun _ => by omega, fun _ => by decide⟩
theorem zdn_dec {m j : Nat} (h : j ≤ m) : nI (m - j) + Int32.ofInt (-1) = zdn m (j + 1) := by
  unfold zdn
  by_cases h2 : j + 1 ≤ m
  · rw [if_pos h2, zi_pred (by omega)]
    rfl
  · rw [if_neg h2, show m - j = 0 by omega]
    decide
end
section
/-! Loops -/
set_option maxHeartbeats 1000000 in
set_option maxRecDepth 100000 in
theorem kO_loopOf (l : Launch) (D : va_G) (cI cZ : ClassId) (lo g s dp od : Nat) (dep ord : Nat → Nat) (f t n m : Nat) (fr to : Nat → Nat) (e : Nat) (he : e < m) (hn : 2 ≤ n ∧ n ≤ 12) (hm : m ≤ 24) (hok : ∀ e, e < m → fr e < n ∧ to e < n) : zM l yO_loopOf wO_loopOf rO_loopOf D zCl (zTy cI cZ) zNW 0 0 [.ref lo, .int (nI e)] (wO cI lo g s dp od (dep) (ord) ++ wG cI g f t n m fr to) (fun v wn => v = some (.int (bS (zlp fr to m n e))) ∧ wn = wO cI lo g s dp od (dep) (ord) ++ wG cI g f t n m fr to) := by
  have hoke := hok e he
  refine z_met2 cO_loopOf 3 (some .int) rfl rfl (Nat.le_of_ble_eq_true rfl) rfl (fun Z hX => ?_)
  show Z 0 0 0 [some (.ref lo), some (.int (nI e)), none] [] (wO cI lo g s dp od (dep) (ord) ++ wG cI g f t n m fr to)
  refine z_aload_n hX 0 dO_loopOf_0 rfl rfl ?_
  refine z_get hX 0 0 rfl rfl (zu inO) (by decide) (List.mem_cons_of_mem _ mw_109) rfl dO_loopOf_1 ?_
  refine z_get hX 3 2 rfl rfl (zu inG) (by decide) (List.mem_cons_of_mem _ mw_46) rfl dO_loopOf_4 ?_
  refine z_iload_n hX 1 dO_loopOf_7 rfl rfl ?_
  refine z_ldN hX 5 0 _ rfl rfl rfl (by omega) (by decide) dO_loopOf_8 ?_
  refine z_istore_n hX 2 dO_loopOf_9 rfl (by decide) ?_
  refine z_iload_n hX 2 dO_loopOf_10 rfl rfl ?_
  refine z_Nr hX (kA_bit l D cI cZ (to e) (by omega)) "SpanningProbes" mw_261 (by decide) mw_1 mw_260 rfl rfl ⟨by decide, by decide, rfl⟩ (by decide) rfl rfl (Nat.le_of_ble_eq_true rfl) dO_loopOf_11 (by decide) [] rfl rfl (fun v wn hv => ?_)
  obtain ⟨rfl, rfl⟩ := hv
  refine ⟨rfl, ?_⟩
  refine z_aload_n hX 0 dO_loopOf_14 rfl rfl ?_
  refine z_get hX 0 0 rfl rfl (zu inO) (by decide) (List.mem_cons_of_mem _ mw_109) rfl dO_loopOf_15 ?_
  refine z_aload_n hX 0 dO_loopOf_18 rfl rfl ?_
  refine z_get hX 0 0 rfl rfl (zu inO) (by decide) (List.mem_cons_of_mem _ mw_109) rfl dO_loopOf_19 ?_
  refine z_get hX 3 1 rfl rfl (zu inG) (by decide) (List.mem_cons_of_mem _ mw_40) rfl dO_loopOf_22 ?_
  refine z_iload_n hX 1 dO_loopOf_25 rfl rfl ?_
  refine z_ldN hX 4 0 _ rfl rfl rfl (by omega) (by decide) dO_loopOf_26 ?_
  refine z_iload_n hX 2 dO_loopOf_27 rfl rfl ?_
  refine z_Vr hX (kG_blocksReaching l D cI cZ g f t n m fr to (fr e) (some (to e)) hn hm hok (by omega) (fun b hb => by cases hb; omega)) mw_317 mw_287 mw_288 mw_2 mw_289 rfl rfl ⟨rfl, by decide, by decide, rfl⟩ (by decide) 3 rfl rfl rfl rfl (Nat.le_of_ble_eq_true rfl) dO_loopOf_28 (by decide) [3, 4, 5] rfl rfl (fun v wn hv => ?_)
  obtain ⟨rfl, rfl⟩ := hv
  refine ⟨rfl, ?_⟩
  refine z_ior hX dO_loopOf_31 ?_
  rw [bS_or]
  refine z_iret hX rfl rfl rfl rfl dO_loopOf_32 ?_
  exact ⟨rfl, rfl⟩

set_option maxHeartbeats 1000000 in
set_option maxRecDepth 100000 in
theorem kO_deepen (l : Launch) (D : va_G) (cI cZ : ClassId) (lo g s dp od : Nat) (dep ord : Nat → Nat) (f t n m : Nat) (fr to : Nat → Nat) (S : Nat → Bool) (hn : n ≤ 12) : zM l yO_deepen wO_deepen rO_deepen D zCl (zTy cI cZ) zNW 0 0 [.ref lo, .int (bS S)] (wO cI lo g s dp od (dep) (ord) ++ wG cI g f t n m fr to) (fun v wn => v = none ∧ wn = wO cI lo g s dp od (zdp dep S n) (ord) ++ wG cI g f t n m fr to) := by
  refine z_met2 cO_deepen 3 none rfl rfl (Nat.le_of_ble_eq_true rfl) rfl (fun Z hX => ?_)
  show Z 0 0 0 [some (.ref lo), some (.int (bS S)), none] [] (wO cI lo g s dp od (dep) (ord) ++ wG cI g f t n m fr to)
  refine z_iconst hX (nI 0) dO_deepen_0 rfl ?_
  refine z_istore_n hX 2 dO_deepen_1 rfl (by decide) ?_
  have hloop : ∀ i, i ≤ n → Z 0 0 2 [some (.ref lo), some (.int (bS S)), some (.int (nI i))] [] (wO cI lo g s dp od (zdp dep S i) (ord) ++ wG cI g f t n m fr to) := by
    refine zloop (P := fun i => Z 0 0 2 [some (.ref lo), some (.int (bS S)), some (.int (nI i))] [] (wO cI lo g s dp od (zdp dep S i) (ord) ++ wG cI g f t n m fr to)) n (fun i hi ih => ?_)
    refine z_iload_n hX 2 dO_deepen_2 rfl rfl ?_
    refine z_aload_n hX 0 dO_deepen_3 rfl rfl ?_
    refine z_get hX 0 0 rfl rfl (zu inO) (by decide) (List.mem_cons_of_mem _ mw_109) rfl dO_deepen_4 ?_
    refine z_get hX 3 0 rfl rfl (zu inG) (by decide) (List.mem_cons_of_mem _ mw_34) rfl dO_deepen_7 ?_
    refine z_icmp_geN hX 37 (by omega) (by omega) dO_deepen_10 rfl (fun h10 => ?_) (fun h10 => ?_)
    · refine z_vret hX rfl rfl rfl dO_deepen_37 ?_
      rw [show n = i by omega]
      exact ⟨rfl, rfl⟩
    · refine z_iload_n hX 1 dO_deepen_13 rfl rfl ?_
      refine z_iload_n hX 2 dO_deepen_14 rfl rfl ?_
      refine z_Nr hX (kA_isIn l D cI cZ S i (by omega)) "SpanningProbes" mw_272 (by decide) mw_1 mw_271 rfl rfl ⟨by decide, by decide, rfl⟩ (by decide) rfl rfl (Nat.le_of_ble_eq_true rfl) dO_deepen_15 (by decide) [] rfl rfl (fun v wn hv => ?_)
      obtain ⟨rfl, rfl⟩ := hv
      refine ⟨rfl, ?_⟩
      refine z_if_eqB hX 31 dO_deepen_18 rfl (fun h18 => ?_) (fun h18 => ?_)
      · have hs2 := zdp_miss (dep := dep) h18
        refine z_iinc hX 2 dO_deepen_31 rfl (zi_1 _) (by decide) ?_
        refine z_goto hX 2 dO_deepen_34 rfl ?_
        have hz := ih (by omega)
        rw [hs2] at hz
        exact hz
      · have hs2 := zdp_hit (dep := dep) h18
        refine z_aload_n hX 0 dO_deepen_21 rfl rfl ?_
        refine z_get hX 0 2 rfl rfl (zu inO) (by decide) (List.mem_cons_of_mem _ mw_111) rfl dO_deepen_22 ?_
        refine z_iload_n hX 2 dO_deepen_25 rfl rfl ?_
        refine z_dup2 hX dO_deepen_26 rfl rfl ?_
        refine z_ldN hX 1 0 _ rfl rfl rfl (by omega) (by decide) dO_deepen_27 ?_
        rw [zdp_at]
        refine z_iconst hX (nI 1) dO_deepen_28 rfl ?_
        refine z_iaddN hX dO_deepen_29 ?_
        refine z_stN hX 1 0 _ _ rfl rfl rfl rfl (by omega) (by decide) dO_deepen_30 ?_
        refine z_iinc hX 2 dO_deepen_31 rfl (zi_1 _) (by decide) ?_
        refine z_goto hX 2 dO_deepen_34 rfl ?_
        have hz := ih (by omega)
        rw [hs2] at hz
        exact hz
  have hz := hloop 0 (Nat.zero_le _)
  rw [zdp_0] at hz
  exact hz

set_option maxHeartbeats 1000000 in
set_option maxRecDepth 100000 in
theorem kO_weightOf (l : Launch) (D : va_G) (cI cZ : ClassId) (lo g s dp od : Nat) (dep ord : Nat → Nat) (f t n m : Nat) (fr to : Nat → Nat) (e : Nat) (he : e < 24) (h1 : fr e < 12) (h2 : to e < 12) (hd1 : dep (fr e) < 2147483648) (hd2 : dep (to e) < 2147483648) : zM l yO_weightOf wO_weightOf rO_weightOf D zCl (zTy cI cZ) zNW 0 0 [.ref lo, .int (nI e)] (wO cI lo g s dp od (dep) (ord) ++ wG cI g f t n m fr to) (fun v wn => v = some (.int (nI (zwt fr to dep e))) ∧ wn = wO cI lo g s dp od (dep) (ord) ++ wG cI g f t n m fr to) := by
  refine z_met2 cO_weightOf 2 (some .int) rfl rfl (Nat.le_of_ble_eq_true rfl) rfl (fun Z hX => ?_)
  show Z 0 0 0 [some (.ref lo), some (.int (nI e))] [] (wO cI lo g s dp od (dep) (ord) ++ wG cI g f t n m fr to)
  refine z_aload_n hX 0 dO_weightOf_0 rfl rfl ?_
  refine z_get hX 0 2 rfl rfl (zu inO) (by decide) (List.mem_cons_of_mem _ mw_111) rfl dO_weightOf_1 ?_
  refine z_aload_n hX 0 dO_weightOf_4 rfl rfl ?_
  refine z_get hX 0 0 rfl rfl (zu inO) (by decide) (List.mem_cons_of_mem _ mw_109) rfl dO_weightOf_5 ?_
  refine z_get hX 3 1 rfl rfl (zu inG) (by decide) (List.mem_cons_of_mem _ mw_40) rfl dO_weightOf_8 ?_
  refine z_iload_n hX 1 dO_weightOf_11 rfl rfl ?_
  refine z_ldN hX 4 0 _ rfl rfl rfl (by omega) (by decide) dO_weightOf_12 ?_
  refine z_ldN hX 1 0 _ rfl rfl rfl (by omega) (by decide) dO_weightOf_13 ?_
  refine z_aload_n hX 0 dO_weightOf_14 rfl rfl ?_
  refine z_get hX 0 2 rfl rfl (zu inO) (by decide) (List.mem_cons_of_mem _ mw_111) rfl dO_weightOf_15 ?_
  refine z_aload_n hX 0 dO_weightOf_18 rfl rfl ?_
  refine z_get hX 0 0 rfl rfl (zu inO) (by decide) (List.mem_cons_of_mem _ mw_109) rfl dO_weightOf_19 ?_
  refine z_get hX 3 2 rfl rfl (zu inG) (by decide) (List.mem_cons_of_mem _ mw_46) rfl dO_weightOf_22 ?_
  refine z_iload_n hX 1 dO_weightOf_25 rfl rfl ?_
  refine z_ldN hX 5 0 _ rfl rfl rfl (by omega) (by decide) dO_weightOf_26 ?_
  refine z_ldN hX 1 0 _ rfl rfl rfl (by omega) (by decide) dO_weightOf_27 ?_
  refine z_mmin hX (List.mem_cons_of_mem _ mw_331) (List.mem_cons_of_mem _ mw_22) (List.mem_cons_of_mem _ mw_3) (List.mem_cons_of_mem _ mw_23) (by decide) (Nat.le_of_ble_eq_true rfl) (by decide) (by decide) dO_weightOf_28 ?_
  rw [zmin hd1 hd2]
  refine z_iret hX rfl rfl rfl rfl dO_weightOf_31 ?_
  exact ⟨rfl, rfl⟩

set_option maxHeartbeats 1000000 in
set_option maxRecDepth 100000 in
theorem kO_putInOrder (l : Launch) (D : va_G) (cI cZ : ClassId) (lo g s dp od : Nat) (dep ord : Nat → Nat) (f t n m : Nat) (fr to : Nat → Nat) (hn : 2 ≤ n ∧ n ≤ 12) (hm : m ≤ 24) (hok : ∀ e, e < m → fr e < n ∧ to e < n) (hd : ∀ x, x < n → dep x ≤ m) : zM l yO_putInOrder wO_putInOrder rO_putInOrder D zCl (zTy cI cZ) zNW 0 0 [.ref lo] (wO cI lo g s dp od (dep) (ord) ++ wG cI g f t n m fr to) (fun v wn => v = none ∧ wn = wO cI lo g s dp od (dep) ((so_sys (zwt fr to dep) m ord).1) ++ wG cI g f t n m fr to) := by
  have hw : ∀ x, x < m → zwt fr to dep x ≤ m := fun x hx => by
    have h9 := hd (fr x) (hok x hx).1
    have h8 : zwt fr to dep x ≤ dep (fr x) := Nat.min_le_left _ _
    omega
  refine z_met2 cO_putInOrder 4 none rfl rfl (Nat.le_of_ble_eq_true rfl) rfl (fun Z hX => ?_)
  show Z 0 0 0 [some (.ref lo), none, none, none] [] (wO cI lo g s dp od (dep) (ord) ++ wG cI g f t n m fr to)
  refine z_iconst hX (nI 0) dO_putInOrder_0 rfl ?_
  refine z_istore_n hX 1 dO_putInOrder_1 rfl (by decide) ?_
  refine z_aload_n hX 0 dO_putInOrder_2 rfl rfl ?_
  refine z_get hX 0 0 rfl rfl (zu inO) (by decide) (List.mem_cons_of_mem _ mw_109) rfl dO_putInOrder_3 ?_
  refine z_get hX 3 3 rfl rfl (zu inG) (by decide) (List.mem_cons_of_mem _ mw_51) rfl dO_putInOrder_6 ?_
  refine z_istore_n hX 2 dO_putInOrder_9 rfl (by decide) ?_
  refine zloop (P := fun j => Z 0 0 10 [some (.ref lo), some (.int (nI (so_t (zwt fr to dep) m j ord).2)), some (.int (zdn m j)), none] [] (wO cI lo g s dp od (dep) ((so_t (zwt fr to dep) m j ord).1) ++ wG cI g f t n m fr to)) (m + 1) (fun j hj ih => ?_) 0 (Nat.zero_le _)
  refine z_iload_n hX 2 dO_putInOrder_10 rfl rfl ?_
  refine z_if_lt hX 58 dO_putInOrder_11 rfl (fun h11 => ?_) (fun h11 => ?_)
  · have hjm := (zdn_lt (by omega)).mp h11
    refine z_vret hX rfl rfl rfl dO_putInOrder_58 ?_
    have hj1 : j = m + 1 := by omega
    subst hj1
    exact ⟨rfl, rfl⟩
  · have hjm : j ≤ m := by
      by_cases hc : j ≤ m
      · exact hc
      · exact absurd ((zdn_lt (by omega)).mpr (by omega)) h11
    rw [zdn_in hjm]
    refine z_iconst hX (nI 0) dO_putInOrder_14 rfl ?_
    refine z_istore_n hX 3 dO_putInOrder_15 rfl (by decide) ?_
    refine zloop (P := fun e => Z 0 0 16 [some (.ref lo), some (.int (nI (sp_it (so_in (zwt fr to dep) (m - j)) e (so_t (zwt fr to dep) m j ord)).2)), some (.int (nI (m - j))), some (.int (nI e))] [] (wO cI lo g s dp od (dep) ((sp_it (so_in (zwt fr to dep) (m - j)) e (so_t (zwt fr to dep) m j ord)).1) ++ wG cI g f t n m fr to)) m (fun e he ih2 => ?_) 0 (Nat.zero_le _)
    refine z_iload_n hX 3 dO_putInOrder_16 rfl rfl ?_
    refine z_aload_n hX 0 dO_putInOrder_17 rfl rfl ?_
    refine z_get hX 0 0 rfl rfl (zu inO) (by decide) (List.mem_cons_of_mem _ mw_109) rfl dO_putInOrder_18 ?_
    refine z_get hX 3 3 rfl rfl (zu inG) (by decide) (List.mem_cons_of_mem _ mw_51) rfl dO_putInOrder_21 ?_
    refine z_icmp_geN hX 52 (by omega) (by omega) dO_putInOrder_24 rfl (fun h24 => ?_) (fun h24 => ?_)
    · refine z_iinc hX 2 dO_putInOrder_52 rfl (zdn_dec hjm) (by decide) ?_
      refine z_goto hX 10 dO_putInOrder_55 rfl ?_
      have hz := ih (by omega)
      have hje : so_t (zwt fr to dep) m (j + 1) ord = sp_it (so_in (zwt fr to dep) (m - j)) e (so_t (zwt fr to dep) m j ord) := by rw [show e = m by omega]; rfl
      rw [hje] at hz
      exact z_le2 hX hz (And.intro rfl (And.intro rfl (And.intro rfl trivial)))
    · have hoke := hok e (by omega)
      have hwe := hw e (by omega)
      refine z_aload_n hX 0 dO_putInOrder_27 rfl rfl ?_
      refine z_iload_n hX 3 dO_putInOrder_28 rfl rfl ?_
      refine z_Vr hX (kO_weightOf l D cI cZ lo g s dp od dep (sp_it (so_in (zwt fr to dep) (m - j)) e (so_t (zwt fr to dep) m j ord)).1 f t n m fr to e (by omega) (by omega) (by omega) (by have := hd _ hoke.1; omega) (by have := hd _ hoke.2; omega)) mw_327 mw_329 mp_1_7 mw_5 mw_330 rfl rfl ⟨rfl, by decide, by decide, rfl⟩ (by decide) 0 rfl rfl rfl rfl (Nat.le_of_ble_eq_true rfl) dO_putInOrder_29 (by decide) [0, 1, 2, 3, 4, 5] rfl rfl (fun v wn hv => ?_)
      obtain ⟨rfl, rfl⟩ := hv
      refine ⟨rfl, ?_⟩
      refine z_iload_n hX 2 dO_putInOrder_32 rfl rfl ?_
      refine z_icmp_neN hX 46 (by omega) (by omega) dO_putInOrder_33 rfl (fun h33 => ?_) (fun h33 => ?_)
      · have hs2 : sp_it (so_in (zwt fr to dep) (m - j)) (e + 1) (so_t (zwt fr to dep) m j ord) = sp_it (so_in (zwt fr to dep) (m - j)) e (so_t (zwt fr to dep) m j ord) := if_neg h33
        refine z_iinc hX 3 dO_putInOrder_46 rfl (zi_1 _) (by decide) ?_
        refine z_goto hX 16 dO_putInOrder_49 rfl ?_
        have hz := ih2 (by omega)
        rw [hs2] at hz
        exact hz
      · have hs2 : sp_it (so_in (zwt fr to dep) (m - j)) (e + 1) (so_t (zwt fr to dep) m j ord) = (va_up (sp_it (so_in (zwt fr to dep) (m - j)) e (so_t (zwt fr to dep) m j ord)).1 (sp_it (so_in (zwt fr to dep) (m - j)) e (so_t (zwt fr to dep) m j ord)).2 e, (sp_it (so_in (zwt fr to dep) (m - j)) e (so_t (zwt fr to dep) m j ord)).2 + 1) := if_pos h33
        have hroom := so_room hw ord (j := j) (e := e) hjm (by omega) h33
        refine z_aload_n hX 0 dO_putInOrder_36 rfl rfl ?_
        refine z_get hX 0 3 rfl rfl (zu inO) (by decide) (List.mem_cons_of_mem _ mw_113) rfl dO_putInOrder_37 ?_
        refine z_iload_n hX 1 dO_putInOrder_40 rfl rfl ?_
        refine z_iload_n hX 3 dO_putInOrder_41 rfl rfl ?_
        refine z_stN hX 2 0 _ _ rfl rfl rfl rfl (by omega) (by decide) dO_putInOrder_42 ?_
        refine z_iinc hX 1 dO_putInOrder_43 rfl (zi_1 _) (by decide) ?_
        refine z_iinc hX 3 dO_putInOrder_46 rfl (zi_1 _) (by decide) ?_
        refine z_goto hX 16 dO_putInOrder_49 rfl ?_
        have hz := ih2 (by omega)
        rw [hs2] at hz
        exact hz

set_option maxHeartbeats 1000000 in
set_option maxRecDepth 100000 in
theorem kO_measure (l : Launch) (D : va_G) (cI cZ : ClassId) (lo g s dp od : Nat) (ord : Nat → Nat) (f t n m : Nat) (fr to : Nat → Nat) (ib fi sk lu : Nat) (Mt Op : Nat → Bool) (h : Nat) (bk : Nat → Bool) (fin st lk : Nat → Nat) (hn : 2 ≤ n ∧ n ≤ 12) (hm : m ≤ 24) (hok : ∀ e, e < m → fr e < n ∧ to e < n) : zM l yO_measure wO_measure rO_measure D zCl (zTy cI cZ) zNW 0 0 [.ref lo] (wO cI lo g s dp od (fun _ => 0) (ord) ++ wG cI g f t n m fr to ++ wS cI cZ s g ib fi sk lu Mt Op h bk fin st lk) (fun v wn => v = none ∧ wn = wO cI lo g s dp od (sp_it (zde fr to bk m n) m (fun _ => 0)) ((so_sys (zwt fr to (sp_it (zde fr to bk m n) m (fun _ => 0))) m ord).1) ++ wG cI g f t n m fr to ++ wS cI cZ s g ib fi sk lu Mt Op h bk fin st lk) := by
  refine z_met2 cO_measure 2 none rfl rfl (Nat.le_of_ble_eq_true rfl) rfl (fun Z hX => ?_)
  show Z 0 0 0 [some (.ref lo), none] [] (wO cI lo g s dp od (fun _ => 0) (ord) ++ wG cI g f t n m fr to ++ wS cI cZ s g ib fi sk lu Mt Op h bk fin st lk)
  refine z_iconst hX (nI 0) dO_measure_0 rfl ?_
  refine z_istore_n hX 1 dO_measure_1 rfl (by decide) ?_
  refine zloop (P := fun e => Z 0 0 2 [some (.ref lo), some (.int (nI e))] [] (wO cI lo g s dp od (sp_it (zde fr to bk m n) e (fun _ => 0)) (ord) ++ wG cI g f t n m fr to ++ wS cI cZ s g ib fi sk lu Mt Op h bk fin st lk)) m (fun e he ih => ?_) 0 (Nat.zero_le _)
  refine z_iload_n hX 1 dO_measure_2 rfl rfl ?_
  refine z_aload_n hX 0 dO_measure_3 rfl rfl ?_
  refine z_get hX 0 0 rfl rfl (zu inO) (by decide) (List.mem_cons_of_mem _ mw_109) rfl dO_measure_4 ?_
  refine z_get hX 3 3 rfl rfl (zu inG) (by decide) (List.mem_cons_of_mem _ mw_51) rfl dO_measure_7 ?_
  refine z_icmp_geN hX 40 (by omega) (by omega) dO_measure_10 rfl (fun h10 => ?_) (fun h10 => ?_)
  · rw [show e = m by omega]
    refine z_aload_n hX 0 dO_measure_40 rfl rfl ?_
    refine z_Vm hX (kO_putInOrder l D cI cZ lo g s dp od (sp_it (zde fr to bk m n) m (fun _ => 0)) ord f t n m fr to hn hm hok (fun x _ => zde_le fr to bk m n m x)) mw_323 mw_325 mp_1_6 mw_5 mw_326 rfl rfl ⟨rfl, by decide, by decide, rfl⟩ (by decide) 0 rfl rfl rfl rfl (Nat.le_of_ble_eq_true rfl) dO_measure_41 (by decide) [0, 1, 2, 3, 4, 5] rfl rfl (fun v wn hv => ?_)
    obtain ⟨rfl, rfl⟩ := hv
    refine ⟨by simp, ?_⟩
    refine z_vret hX rfl rfl rfl dO_measure_44 ?_
    exact ⟨rfl, rfl⟩
  · refine z_aload_n hX 0 dO_measure_13 rfl rfl ?_
    refine z_get hX 0 1 rfl rfl (zu inO) (by decide) (List.mem_cons_of_mem _ mw_110) rfl dO_measure_14 ?_
    refine z_get hX 6 1 rfl rfl (zu inS) (by decide) (List.mem_cons_of_mem _ mw_76) rfl dO_measure_17 ?_
    refine z_iload_n hX 1 dO_measure_20 rfl rfl ?_
    refine z_ldB hX 7 1 _ rfl rfl rfl (by omega) (by decide) dO_measure_21 ?_
    refine z_if_eqB hX 34 dO_measure_22 rfl (fun h22 => ?_) (fun h22 => ?_)
    · have hs2 : sp_it (zde fr to bk m n) (e + 1) (fun _ => 0) = sp_it (zde fr to bk m n) e (fun _ => 0) := if_neg (by rw [h22]; decide)
      refine z_iinc hX 1 dO_measure_34 rfl (zi_1 _) (by decide) ?_
      refine z_goto hX 2 dO_measure_37 rfl ?_
      have hz := ih (by omega)
      rw [hs2] at hz
      exact hz
    · have hs2 : sp_it (zde fr to bk m n) (e + 1) (fun _ => 0) = zdp (sp_it (zde fr to bk m n) e (fun _ => 0)) (zlp fr to m n e) n := if_pos h22
      refine z_aload_n hX 0 dO_measure_25 rfl rfl ?_
      refine z_aload_n hX 0 dO_measure_26 rfl rfl ?_
      refine z_iload_n hX 1 dO_measure_27 rfl rfl ?_
      refine z_Vr hX (kO_loopOf l D cI cZ lo g s dp od (sp_it (zde fr to bk m n) e (fun _ => 0)) ord f t n m fr to e (by omega) hn hm hok) mw_312 mw_314 mp_1_4 mw_5 mw_315 rfl rfl ⟨rfl, by decide, by decide, rfl⟩ (by decide) 0 rfl rfl rfl rfl (Nat.le_of_ble_eq_true rfl) dO_measure_28 (by decide) [0, 1, 2, 3, 4, 5] rfl rfl (fun v wn hv => ?_)
      obtain ⟨rfl, rfl⟩ := hv
      refine ⟨rfl, ?_⟩
      refine z_Vm hX (kO_deepen l D cI cZ lo g s dp od (sp_it (zde fr to bk m n) e (fun _ => 0)) ord f t n m fr to (zlp fr to m n e) (by omega)) mw_318 mw_320 mp_1_5 mw_5 mw_321 rfl rfl ⟨rfl, by decide, by decide, rfl⟩ (by decide) 0 rfl rfl rfl rfl (Nat.le_of_ble_eq_true rfl) dO_measure_31 (by decide) [0, 1, 2, 3, 4, 5] rfl rfl (fun v wn hv => ?_)
      obtain ⟨rfl, rfl⟩ := hv
      refine ⟨by simp, ?_⟩
      refine z_iinc hX 1 dO_measure_34 rfl (zi_1 _) (by decide) ?_
      refine z_goto hX 2 dO_measure_37 rfl ?_
      have hz := ih (by omega)
      rw [hs2] at hz
      exact hz
end
section
/-! words for Links -/
abbrev wK (cI : ClassId) (lk g s kt rw vl sv bs ko : Nat) (R V SV : Nat → Nat) (B : Nat → Int) (o2 : Nat → Nat) (wy : Nat) : va_W := [(lk, .inr (4, [.ref g, .ref s, .ref kt, .ref rw, .ref vl, .ref sv, .ref bs, .ref ko, .int (nI wy)])), (rw, .inl (cI, 12, .inl (aN R))), (vl, .inl (cI, 24, .inl (aN V))), (sv, .inl (cI, 24, .inl (aN SV))), (bs, .inl (cI, 12, .inl (aI B))), (ko, .inl (cI, 24, .inl (aN o2)))]
def ztg (bk : Nat → Bool) (to : Nat → Nat) (e : Nat) : Nat := if bk e = true then 1 else to e
theorem ztg_t {bk : Nat → Bool} {to : Nat → Nat} {e : Nat} (h : bk e = true) : ztg bk to e = 1 := if_pos h
theorem ztg_f {bk : Nat → Bool} {to : Nat → Nat} {e : Nat} (h : bk e = false) : ztg bk to e = to e := if_neg (by rw [h]; decide)
theorem ztg_lt {bk : Nat → Bool} {to : Nat → Nat} {e n : Nat} (hn : 2 ≤ n) (h : to e < n) : ztg bk to e < n := by
  unfold ztg
  split
  · omega
  · exact h
abbrev sv_fs (fr tg R : Nat → Nat) (b : Nat) : Nat → (Nat → Nat) × Nat → (Nat → Nat) × Nat := fun e s => if fr e = b then (va_up s.1 e s.2, s.2 + R (tg e)) else s
abbrev sv_ns (fr tg fin : Nat → Nat) (m : Nat) : Nat → (Nat → Nat) × (Nat → Nat) → (Nat → Nat) × (Nat → Nat) := fun i s => if fin i = 1 then s else ((sv_from fr tg s.2 (fin i) m s.1).1, va_up s.2 (fin i) (sv_from fr tg s.2 (fin i) m s.1).2)
theorem st_f_le (bk : Nat → Bool) (ord o0 : Nat → Nat) : ∀ i, (sp_it (st_f bk ord) i (o0, 0)).2 ≤ i := by
  intro i
  induction i with
  | zero => exact Nat.le_refl 0
  | succ i ih =>
    show (st_f bk ord i (sp_it (st_f bk ord) i (o0, 0))).2 ≤ i + 1
    generalize sp_it (st_f bk ord) i (o0, 0) = u at ih ⊢
    unfold st_f
    split
    · omega
    · show u.2 + 1 ≤ i + 1; omega
theorem st_f_in {bk : Nat → Bool} {ord o0 : Nat → Nat} {m : Nat} {P : Nat → Prop} (h : ∀ i, i < m → P (ord i)) : ∀ i, i ≤ m → ∀ x, x < (sp_it (st_f bk ord) i (o0, 0)).2 → P ((sp_it (st_f bk ord) i (o0, 0)).1 x) := by
  intro i
  induction i with
  | zero => intro _ x hx; exact absurd hx (Nat.not_lt_zero x)
  | succ i ih =>
    intro hi x hx
    have ih := ih (by omega)
    have hx : x < (st_f bk ord i (sp_it (st_f bk ord) i (o0, 0))).2 := hx
    show P ((st_f bk ord i (sp_it (st_f bk ord) i (o0, 0))).1 x)
    generalize sp_it (st_f bk ord) i (o0, 0) = u at ih hx ⊢
    unfold st_f at hx ⊢
    by_cases hb : bk (ord i) = true
    · rw [if_pos hb] at hx ⊢; exact ih x hx
    · rw [if_neg hb] at hx ⊢
      have hx : x < u.2 + 1 := hx
      show P (va_up u.1 u.2 (ord i) x)
      by_cases hxu : x = u.2
      · rw [hxu, sp_up_s]; exact h i (by omega)
      · rw [sp_up_n _ _ hxu]; exact ih x (by omega)
theorem va_up_id {S : Nat → Bool} {a : Nat} (h : S a = true) : va_up S a true = S := by
  funext x
  by_cases hx : x = a
  · subst hx; rw [sp_up_s, h]
  · rw [sp_up_n _ _ hx]
abbrev za (fr to : Nat → Nat) (V : Nat → Nat) (e : Nat) (s : sa_T) : sa_T := sa_s fr to (fun _ => true) (fun x => (V x : Int)) e s
theorem za_1 {fr to V : Nat → Nat} {e : Nat} {s : sa_T} (h1 : s.1 (fr e) = true) (h2 : s.1 (to e) = false) : za fr to V e s = (va_up s.1 (to e) true, va_up s.2 (to e) (s.2 (fr e) + V e)) := by
  show (if true = true then _ else _) = _
  rw [if_pos rfl, if_pos ⟨h1, h2⟩]
theorem za_2 {fr to V : Nat → Nat} {e : Nat} {s : sa_T} (h1 : s.1 (to e) = true) (h2 : s.1 (fr e) = false) : za fr to V e s = (va_up s.1 (fr e) true, va_up s.2 (fr e) (s.2 (to e) - V e)) := by
  show (if true = true then _ else _) = _
  rw [if_pos rfl, if_neg (fun hc => by rw [h2] at hc; exact absurd hc.1 (by decide)), if_pos ⟨h1, h2⟩]
theorem za_3 {fr to V : Nat → Nat} {e : Nat} {s : sa_T} (h : s.1 (fr e) = s.1 (to e)) : za fr to V e s = s := by
  show (if true = true then _ else _) = _
  rw [if_pos rfl, if_neg (fun hc => by rw [← h, hc.1] at hc; exact absurd hc.2 (by decide)), if_neg (fun hc => by rw [h, hc.1] at hc; exact absurd hc.2 (by decide))]
theorem za_has {fr to V : Nat → Nat} {has : Nat → Bool} {e : Nat} {s : sa_T} (h : has e = true) : sa_s fr to has (fun x => (V x : Int)) e s = za fr to V e s := by
  show (if has e = true then _ else _) = (if true = true then _ else _)
  rw [if_pos h, if_pos rfl]
theorem za_no {fr to V : Nat → Nat} {has : Nat → Bool} {e : Nat} {s : sa_T} (h : has e = false) : sa_s fr to has (fun x => (V x : Int)) e s = s := if_neg (by rw [h]; decide)
def zL (t : Nat) : Int32 := if t = 0 then -1 else nI (t - 1)
theorem zL_0 : zL 0 = -1 := rfl
theorem zL_s (e : Nat) : zL (e + 1) = nI e := rfl
theorem zL_ge {t : Nat} (h : t < 2147483648) : 0 ≤ zL t ↔ t ≠ 0 := by
  cases t with
  | zero => exact ⟨fun hc => absurd hc (by decide), fun hc => absurd rfl hc⟩
  | succ t => exact ⟨fun _ => Nat.succ_ne_zero t, fun _ => zi_ge0 (by omega)⟩
theorem zL_lt {t : Nat} (h : t < 2147483648) : zL t < 0 ↔ t = 0 := by
  cases t with
  | zero => exact ⟨fun _ => rfl, fun _ => by decide⟩
  | succ t => exact ⟨fun hc => absurd hc (nI_pos (by omega)), fun hc => absurd hc (Nat.succ_ne_zero t)⟩
theorem sw_last_le (p : Nat → Bool) (k : Nat) : sw_last p k ≤ k := by
  induction k with
  | zero => exact Nat.le_refl 0
  | succ k ih =>
    show (if p k = true then k + 1 else sw_last p k) ≤ k + 1
    split
    · exact Nat.le_refl _
    · omega
theorem sw_last_p {p : Nat → Bool} {k e : Nat} (h : sw_last p k = e + 1) : p e = true := by
  induction k with
  | zero => exact absurd h (by show ¬ 0 = e + 1; omega)
  | succ k ih =>
    have h : (if p k = true then k + 1 else sw_last p k) = e + 1 := h
    by_cases hp : p k = true
    · rw [if_pos hp] at h
      rw [show e = k by omega]; exact hp
    · rw [if_neg hp] at h; exact ih h
abbrev zps (bk : Nat → Bool) (SV : Nat → Nat) (w e : Nat) : Bool := bk e && decide (SV e ≤ w)
abbrev zpl (fr V : Nat → Nat) (b r e : Nat) : Bool := decide (fr e = b) && decide (V e ≤ r)
/-- the edge of the k-th link: s steps left, the i-th link is looked for, from b, with rest r -/
def zgo (fr tg V : Nat → Nat) (m : Nat) (k : Int32) : Nat → Nat → Nat → Nat → Int32
  | 0, _, _, _ => -2147483648
  | s + 1, i, b, r => if b = 1 then -2147483648 else if sw_last (zpl fr V b r) m = 0 then -2147483648 else if nI i = k then nI (sw_last (zpl fr V b r) m - 1) else zgo fr tg V m k s (i + 1) (tg (sw_last (zpl fr V b r) m - 1)) (r - V (sw_last (zpl fr V b r) m - 1))
end
section
/-! Links: numbers, bases -/
set_option maxHeartbeats 1000000 in
set_option maxRecDepth 100000 in
theorem kK_targetOf (l : Launch) (D : va_G) (cI cZ : ClassId) (lk g s kt rw vl sv bs ko : Nat) (R V SV : Nat → Nat) (B : Nat → Int) (o2 : Nat → Nat) (wy : Nat) (f t n m : Nat) (fr to : Nat → Nat) (ib fi sk lu : Nat) (Mt Op : Nat → Bool) (h : Nat) (bk : Nat → Bool) (fin st lq : Nat → Nat) (e : Nat) (he : e < 24) : zM l yK_targetOf wK_targetOf rK_targetOf D zCl (zTy cI cZ) zNW 0 0 [.ref lk, .int (nI e)] (wK cI lk g s kt rw vl sv bs ko (R) (V) (SV) (B) (o2) (wy) ++ wG cI g f t n m fr to ++ wS cI cZ s g ib fi sk lu Mt Op h bk fin st lq) (fun v wn => v = some (.int (nI (ztg bk to e))) ∧ wn = wK cI lk g s kt rw vl sv bs ko (R) (V) (SV) (B) (o2) (wy) ++ wG cI g f t n m fr to ++ wS cI cZ s g ib fi sk lu Mt Op h bk fin st lq) := by
  refine z_met2 cK_targetOf 2 (some .int) rfl rfl (Nat.le_of_ble_eq_true rfl) rfl (fun Z hX => ?_)
  show Z 0 0 0 [some (.ref lk), some (.int (nI e))] [] (wK cI lk g s kt rw vl sv bs ko (R) (V) (SV) (B) (o2) (wy) ++ wG cI g f t n m fr to ++ wS cI cZ s g ib fi sk lu Mt Op h bk fin st lq)
  refine z_aload_n hX 0 dK_targetOf_0 rfl rfl ?_
  refine z_get hX 0 1 rfl rfl (zu inK) (by decide) (List.mem_cons_of_mem _ mw_152) rfl dK_targetOf_1 ?_
  refine z_get hX 9 1 rfl rfl (zu inS) (by decide) (List.mem_cons_of_mem _ mw_75) rfl dK_targetOf_4 ?_
  refine z_iload_n hX 1 dK_targetOf_7 rfl rfl ?_
  refine z_ldB hX 10 1 _ rfl rfl rfl (by omega) (by decide) dK_targetOf_8 ?_
  refine z_if_eqB hX 16 dK_targetOf_9 rfl (fun h9 => ?_) (fun h9 => ?_)
  · have hr := ztg_f (to := to) h9
    refine z_aload_n hX 0 dK_targetOf_16 rfl rfl ?_
    refine z_get hX 0 0 rfl rfl (zu inK) (by decide) (List.mem_cons_of_mem _ mw_151) rfl dK_targetOf_17 ?_
    refine z_get hX 6 2 rfl rfl (zu inG) (by decide) (List.mem_cons_of_mem _ mw_44) rfl dK_targetOf_20 ?_
    refine z_iload_n hX 1 dK_targetOf_23 rfl rfl ?_
    refine z_ldN hX 8 0 _ rfl rfl rfl (by omega) (by decide) dK_targetOf_24 ?_
    refine z_iret hX rfl rfl rfl rfl dK_targetOf_25 ?_
    exact ⟨by rw [hr], rfl⟩
  · have hr := ztg_t (to := to) h9
    refine z_iconst hX (nI 1) dK_targetOf_12 rfl ?_
    refine z_goto hX 25 dK_targetOf_13 rfl ?_
    refine z_iret hX rfl rfl rfl rfl dK_targetOf_25 ?_
    exact ⟨by rw [hr], rfl⟩

set_option maxHeartbeats 1000000 in
set_option maxRecDepth 100000 in
theorem kK_incrementOf (l : Launch) (D : va_G) (cI cZ : ClassId) (lk g s kt rw vl sv bs ko : Nat) (R V SV : Nat → Nat) (B : Nat → Int) (o2 : Nat → Nat) (wy : Nat) (f t n m : Nat) (fr to : Nat → Nat) (ib fi sk lu : Nat) (Mt Op : Nat → Bool) (h : Nat) (bk : Nat → Bool) (fin st lq : Nat → Nat) (e : Nat) (he : e < m) (hn : 2 ≤ n ∧ n ≤ 12) (hm : m ≤ 24) (hok : ∀ e, e < m → fr e < n ∧ to e < n) : zM l yK_incrementOf wK_incrementOf rK_incrementOf D zCl (zTy cI cZ) zNW 0 0 [.ref lk, .int (nI e)] (wK cI lk g s kt rw vl sv bs ko (R) (V) (SV) (B) (o2) (wy) ++ wG cI g f t n m fr to ++ wS cI cZ s g ib fi sk lu Mt Op h bk fin st lq) (fun v wn => v = some (.int (Int32.ofInt (V e + B (fr e) - B (ztg bk to e)))) ∧ wn = wK cI lk g s kt rw vl sv bs ko (R) (V) (SV) (B) (o2) (wy) ++ wG cI g f t n m fr to ++ wS cI cZ s g ib fi sk lu Mt Op h bk fin st lq) := by
  have hoke := hok e he
  have htg := ztg_lt (bk := bk) hn.1 hoke.2
  refine z_met2 cK_incrementOf 2 (some .int) rfl rfl (Nat.le_of_ble_eq_true rfl) rfl (fun Z hX => ?_)
  show Z 0 0 0 [some (.ref lk), some (.int (nI e))] [] (wK cI lk g s kt rw vl sv bs ko (R) (V) (SV) (B) (o2) (wy) ++ wG cI g f t n m fr to ++ wS cI cZ s g ib fi sk lu Mt Op h bk fin st lq)
  refine z_aload_n hX 0 dK_incrementOf_0 rfl rfl ?_
  refine z_get hX 0 4 rfl rfl (zu inK) (by decide) (List.mem_cons_of_mem _ mw_155) rfl dK_incrementOf_1 ?_
  refine z_iload_n hX 1 dK_incrementOf_4 rfl rfl ?_
  refine z_ldN hX 2 0 _ rfl rfl rfl (by omega) (by decide) dK_incrementOf_5 ?_
  refine z_aload_n hX 0 dK_incrementOf_6 rfl rfl ?_
  refine z_get hX 0 6 rfl rfl (zu inK) (by decide) (List.mem_cons_of_mem _ mw_157) rfl dK_incrementOf_7 ?_
  refine z_aload_n hX 0 dK_incrementOf_10 rfl rfl ?_
  refine z_get hX 0 0 rfl rfl (zu inK) (by decide) (List.mem_cons_of_mem _ mw_151) rfl dK_incrementOf_11 ?_
  refine z_get hX 6 1 rfl rfl (zu inG) (by decide) (List.mem_cons_of_mem _ mw_39) rfl dK_incrementOf_14 ?_
  refine z_iload_n hX 1 dK_incrementOf_17 rfl rfl ?_
  refine z_ldN hX 7 0 _ rfl rfl rfl (by omega) (by decide) dK_incrementOf_18 ?_
  refine z_ldI hX 4 0 _ rfl rfl rfl (by omega) (by decide) dK_incrementOf_19 ?_
  refine z_iaddI hX (V e : Int) (B (fr e)) (zi_of _) rfl dK_incrementOf_20 ?_
  refine z_aload_n hX 0 dK_incrementOf_21 rfl rfl ?_
  refine z_get hX 0 6 rfl rfl (zu inK) (by decide) (List.mem_cons_of_mem _ mw_157) rfl dK_incrementOf_22 ?_
  refine z_aload_n hX 0 dK_incrementOf_25 rfl rfl ?_
  refine z_iload_n hX 1 dK_incrementOf_26 rfl rfl ?_
  refine z_Vr hX (kK_targetOf l D cI cZ lk g s kt rw vl sv bs ko (R) (V) (SV) (B) (o2) (wy) f t n m fr to ib fi sk lu Mt Op h bk fin st lq (e) (by omega)) mw_300 mw_301 mw_302 mw_7 mw_303 rfl rfl ⟨rfl, by decide, by decide, rfl⟩ (by decide) 0 rfl rfl rfl rfl (Nat.le_of_ble_eq_true rfl) dK_incrementOf_27 (by decide) [0, 1, 2, 3, 4, 5, 6, 7, 8, 9, 10, 11, 12, 13] rfl rfl (fun v wn hv => ?_)
  obtain ⟨rfl, rfl⟩ := hv
  refine ⟨rfl, ?_⟩
  refine z_ldI hX 4 0 _ rfl rfl rfl (by omega) (by decide) dK_incrementOf_30 ?_
  refine z_isubI hX _ _ rfl rfl dK_incrementOf_31 ?_
  refine z_iret hX rfl rfl rfl rfl dK_incrementOf_32 ?_
  exact ⟨rfl, rfl⟩

set_option maxHeartbeats 1000000 in
set_option maxRecDepth 100000 in
theorem kK_startIncrementOf (l : Launch) (D : va_G) (cI cZ : ClassId) (lk g s kt rw vl sv bs ko : Nat) (R V SV : Nat → Nat) (B : Nat → Int) (o2 : Nat → Nat) (wy : Nat) (f t n m : Nat) (fr to : Nat → Nat) (ib fi sk lu : Nat) (Mt Op : Nat → Bool) (h : Nat) (bk : Nat → Bool) (fin st lq : Nat → Nat) (e : Nat) (he : e < m) (hn : 2 ≤ n ∧ n ≤ 12) (hm : m ≤ 24) (hok : ∀ e, e < m → fr e < n ∧ to e < n) : zM l yK_startIncrementOf wK_startIncrementOf rK_startIncrementOf D zCl (zTy cI cZ) zNW 0 0 [.ref lk, .int (nI e)] (wK cI lk g s kt rw vl sv bs ko (R) (V) (SV) (B) (o2) (wy) ++ wG cI g f t n m fr to ++ wS cI cZ s g ib fi sk lu Mt Op h bk fin st lq) (fun v wn => v = some (.int (Int32.ofInt (SV e + B 0 - B (to e)))) ∧ wn = wK cI lk g s kt rw vl sv bs ko (R) (V) (SV) (B) (o2) (wy) ++ wG cI g f t n m fr to ++ wS cI cZ s g ib fi sk lu Mt Op h bk fin st lq) := by
  have hoke := hok e he
  refine z_met2 cK_startIncrementOf 2 (some .int) rfl rfl (Nat.le_of_ble_eq_true rfl) rfl (fun Z hX => ?_)
  show Z 0 0 0 [some (.ref lk), some (.int (nI e))] [] (wK cI lk g s kt rw vl sv bs ko (R) (V) (SV) (B) (o2) (wy) ++ wG cI g f t n m fr to ++ wS cI cZ s g ib fi sk lu Mt Op h bk fin st lq)
  refine z_aload_n hX 0 dK_startIncrementOf_0 rfl rfl ?_
  refine z_get hX 0 5 rfl rfl (zu inK) (by decide) (List.mem_cons_of_mem _ mw_156) rfl dK_startIncrementOf_1 ?_
  refine z_iload_n hX 1 dK_startIncrementOf_4 rfl rfl ?_
  refine z_ldN hX 3 0 _ rfl rfl rfl (by omega) (by decide) dK_startIncrementOf_5 ?_
  refine z_aload_n hX 0 dK_startIncrementOf_6 rfl rfl ?_
  refine z_get hX 0 6 rfl rfl (zu inK) (by decide) (List.mem_cons_of_mem _ mw_157) rfl dK_startIncrementOf_7 ?_
  refine z_iconst hX (nI 0) dK_startIncrementOf_10 rfl ?_
  refine z_ldI hX 4 0 _ rfl rfl rfl (by omega) (by decide) dK_startIncrementOf_11 ?_
  refine z_iaddI hX (SV e : Int) (B 0) (zi_of _) rfl dK_startIncrementOf_12 ?_
  refine z_aload_n hX 0 dK_startIncrementOf_13 rfl rfl ?_
  refine z_get hX 0 6 rfl rfl (zu inK) (by decide) (List.mem_cons_of_mem _ mw_157) rfl dK_startIncrementOf_14 ?_
  refine z_aload_n hX 0 dK_startIncrementOf_17 rfl rfl ?_
  refine z_get hX 0 0 rfl rfl (zu inK) (by decide) (List.mem_cons_of_mem _ mw_151) rfl dK_startIncrementOf_18 ?_
  refine z_get hX 6 2 rfl rfl (zu inG) (by decide) (List.mem_cons_of_mem _ mw_44) rfl dK_startIncrementOf_21 ?_
  refine z_iload_n hX 1 dK_startIncrementOf_24 rfl rfl ?_
  refine z_ldN hX 8 0 _ rfl rfl rfl (by omega) (by decide) dK_startIncrementOf_25 ?_
  refine z_ldI hX 4 0 _ rfl rfl rfl (by omega) (by decide) dK_startIncrementOf_26 ?_
  refine z_isubI hX _ _ rfl rfl dK_startIncrementOf_27 ?_
  refine z_iret hX rfl rfl rfl rfl dK_startIncrementOf_28 ?_
  exact ⟨rfl, rfl⟩

set_option maxHeartbeats 1000000 in
set_option maxRecDepth 100000 in
theorem kK_numberFrom (l : Launch) (D : va_G) (cI cZ : ClassId) (lk g s kt rw vl sv bs ko : Nat) (R V SV : Nat → Nat) (B : Nat → Int) (o2 : Nat → Nat) (wy : Nat) (f t n m : Nat) (fr to : Nat → Nat) (ib fi sk lu : Nat) (Mt Op : Nat → Bool) (h : Nat) (bk : Nat → Bool) (fin st lq : Nat → Nat) (b : Nat) (hb : b < 12) (hn : 2 ≤ n ∧ n ≤ 12) (hm : m ≤ 24) (hok : ∀ e, e < m → fr e < n ∧ to e < n) : zM l yK_numberFrom wK_numberFrom rK_numberFrom D zCl (zTy cI cZ) zNW 0 0 [.ref lk, .int (nI b)] (wK cI lk g s kt rw vl sv bs ko (R) (V) (SV) (B) (o2) (wy) ++ wG cI g f t n m fr to ++ wS cI cZ s g ib fi sk lu Mt Op h bk fin st lq) (fun v wn => v = some (.int (nI (sv_from fr (ztg bk to) R b m V).2)) ∧ wn = wK cI lk g s kt rw vl sv bs ko (R) ((sv_from fr (ztg bk to) R b m V).1) (SV) (B) (o2) (wy) ++ wG cI g f t n m fr to ++ wS cI cZ s g ib fi sk lu Mt Op h bk fin st lq) := by
  refine z_met2 cK_numberFrom 4 (some .int) rfl rfl (Nat.le_of_ble_eq_true rfl) rfl (fun Z hX => ?_)
  show Z 0 0 0 [some (.ref lk), some (.int (nI b)), none, none] [] (wK cI lk g s kt rw vl sv bs ko (R) (V) (SV) (B) (o2) (wy) ++ wG cI g f t n m fr to ++ wS cI cZ s g ib fi sk lu Mt Op h bk fin st lq)
  refine z_iconst hX (nI 0) dK_numberFrom_0 rfl ?_
  refine z_istore_n hX 2 dK_numberFrom_1 rfl (by decide) ?_
  refine z_iconst hX (nI 0) dK_numberFrom_2 rfl ?_
  refine z_istore_n hX 3 dK_numberFrom_3 rfl (by decide) ?_
  refine zloop (P := fun e => Z 0 0 4 [some (.ref lk), some (.int (nI b)), some (.int (nI (sp_it (sv_fs fr (ztg bk to) R b) e (V, 0)).2)), some (.int (nI e))] [] (wK cI lk g s kt rw vl sv bs ko (R) ((sp_it (sv_fs fr (ztg bk to) R b) e (V, 0)).1) (SV) (B) (o2) (wy) ++ wG cI g f t n m fr to ++ wS cI cZ s g ib fi sk lu Mt Op h bk fin st lq)) m (fun e he ih => ?_) 0 (Nat.zero_le _)
  refine z_iload_n hX 3 dK_numberFrom_4 rfl rfl ?_
  refine z_aload_n hX 0 dK_numberFrom_5 rfl rfl ?_
  refine z_get hX 0 0 rfl rfl (zu inK) (by decide) (List.mem_cons_of_mem _ mw_151) rfl dK_numberFrom_6 ?_
  refine z_get hX 6 3 rfl rfl (zu inG) (by decide) (List.mem_cons_of_mem _ mw_56) rfl dK_numberFrom_9 ?_
  refine z_icmp_geN hX 54 (by omega) (by omega) dK_numberFrom_12 rfl (fun h12 => ?_) (fun h12 => ?_)
  · refine z_iload_n hX 2 dK_numberFrom_54 rfl rfl ?_
    refine z_iret hX rfl rfl rfl rfl dK_numberFrom_55 ?_
    have hem : e = m := by omega
    subst hem
    exact ⟨rfl, rfl⟩
  · have hoke := hok e (by omega)
    have htg := ztg_lt (bk := bk) hn.1 hoke.2
    refine z_aload_n hX 0 dK_numberFrom_15 rfl rfl ?_
    refine z_get hX 0 0 rfl rfl (zu inK) (by decide) (List.mem_cons_of_mem _ mw_151) rfl dK_numberFrom_16 ?_
    refine z_get hX 6 1 rfl rfl (zu inG) (by decide) (List.mem_cons_of_mem _ mw_39) rfl dK_numberFrom_19 ?_
    refine z_iload_n hX 3 dK_numberFrom_22 rfl rfl ?_
    refine z_ldN hX 7 0 _ rfl rfl rfl (by omega) (by decide) dK_numberFrom_23 ?_
    refine z_iload_n hX 1 dK_numberFrom_24 rfl rfl ?_
    refine z_icmp_neN hX 48 (by omega) (by omega) dK_numberFrom_25 rfl (fun h25 => ?_) (fun h25 => ?_)
    · have hs2 : sp_it (sv_fs fr (ztg bk to) R b) (e + 1) (V, 0) = sp_it (sv_fs fr (ztg bk to) R b) e (V, 0) := if_neg h25
      refine z_iinc hX 3 dK_numberFrom_48 rfl (zi_1 _) (by decide) ?_
      refine z_goto hX 4 dK_numberFrom_51 rfl ?_
      have hz := ih (by omega)
      rw [hs2] at hz
      exact hz
    · have hs2 : sp_it (sv_fs fr (ztg bk to) R b) (e + 1) (V, 0) = (va_up (sp_it (sv_fs fr (ztg bk to) R b) e (V, 0)).1 e (sp_it (sv_fs fr (ztg bk to) R b) e (V, 0)).2, (sp_it (sv_fs fr (ztg bk to) R b) e (V, 0)).2 + R (ztg bk to e)) := if_pos h25
      refine z_aload_n hX 0 dK_numberFrom_28 rfl rfl ?_
      refine z_get hX 0 4 rfl rfl (zu inK) (by decide) (List.mem_cons_of_mem _ mw_155) rfl dK_numberFrom_29 ?_
      refine z_iload_n hX 3 dK_numberFrom_32 rfl rfl ?_
      refine z_iload_n hX 2 dK_numberFrom_33 rfl rfl ?_
      refine z_stN hX 2 0 _ _ rfl rfl rfl rfl (by omega) (by decide) dK_numberFrom_34 ?_
      refine z_iload_n hX 2 dK_numberFrom_35 rfl rfl ?_
      refine z_aload_n hX 0 dK_numberFrom_36 rfl rfl ?_
      refine z_get hX 0 3 rfl rfl (zu inK) (by decide) (List.mem_cons_of_mem _ mw_154) rfl dK_numberFrom_37 ?_
      refine z_aload_n hX 0 dK_numberFrom_40 rfl rfl ?_
      refine z_iload_n hX 3 dK_numberFrom_41 rfl rfl ?_
      refine z_Vr hX (kK_targetOf l D cI cZ lk g s kt rw vl sv bs ko (R) (va_up (sp_it (sv_fs fr (ztg bk to) R b) e (V, 0)).1 e (sp_it (sv_fs fr (ztg bk to) R b) e (V, 0)).2) (SV) (B) (o2) (wy) f t n m fr to ib fi sk lu Mt Op h bk fin st lq (e) (by omega)) mw_300 mw_301 mw_302 mw_7 mw_303 rfl rfl ⟨rfl, by decide, by decide, rfl⟩ (by decide) 0 rfl rfl rfl rfl (Nat.le_of_ble_eq_true rfl) dK_numberFrom_42 (by decide) [0, 1, 2, 3, 4, 5, 6, 7, 8, 9, 10, 11, 12, 13] rfl rfl (fun v wn hv => ?_)
      obtain ⟨rfl, rfl⟩ := hv
      refine ⟨rfl, ?_⟩
      refine z_ldN hX 1 0 _ rfl rfl rfl (by omega) (by decide) dK_numberFrom_45 ?_
      refine z_iaddN hX dK_numberFrom_46 ?_
      refine z_istore_n hX 2 dK_numberFrom_47 rfl (by decide) ?_
      refine z_iinc hX 3 dK_numberFrom_48 rfl (zi_1 _) (by decide) ?_
      refine z_goto hX 4 dK_numberFrom_51 rfl ?_
      have hz := ih (by omega)
      rw [hs2] at hz
      exact hz

set_option maxHeartbeats 1000000 in
set_option maxRecDepth 100000 in
theorem kK_numberStarts (l : Launch) (D : va_G) (cI cZ : ClassId) (lk g s kt rw vl sv bs ko : Nat) (R V SV : Nat → Nat) (B : Nat → Int) (o2 : Nat → Nat) (wy : Nat) (f t n m : Nat) (fr to : Nat → Nat) (ib fi sk lu : Nat) (Mt Op : Nat → Bool) (h : Nat) (bk : Nat → Bool) (fin st lq : Nat → Nat) (r0 : Nat) (hn : 2 ≤ n ∧ n ≤ 12) (hm : m ≤ 24) (hok : ∀ e, e < m → fr e < n ∧ to e < n) : zM l yK_numberStarts wK_numberStarts rK_numberStarts D zCl (zTy cI cZ) zNW 0 0 [.ref lk, .int (nI r0)] (wK cI lk g s kt rw vl sv bs ko (R) (V) (SV) (B) (o2) (wy) ++ wG cI g f t n m fr to ++ wS cI cZ s g ib fi sk lu Mt Op h bk fin st lq) (fun v wn => v = some (.int (nI (sp_it (sv_st to R bk) m (SV, r0)).2)) ∧ wn = wK cI lk g s kt rw vl sv bs ko (R) (V) ((sp_it (sv_st to R bk) m (SV, r0)).1) (B) (o2) (wy) ++ wG cI g f t n m fr to ++ wS cI cZ s g ib fi sk lu Mt Op h bk fin st lq) := by
  refine z_met2 cK_numberStarts 4 (some .int) rfl rfl (Nat.le_of_ble_eq_true rfl) rfl (fun Z hX => ?_)
  show Z 0 0 0 [some (.ref lk), some (.int (nI r0)), none, none] [] (wK cI lk g s kt rw vl sv bs ko (R) (V) (SV) (B) (o2) (wy) ++ wG cI g f t n m fr to ++ wS cI cZ s g ib fi sk lu Mt Op h bk fin st lq)
  refine z_iload_n hX 1 dK_numberStarts_0 rfl rfl ?_
  refine z_istore_n hX 2 dK_numberStarts_1 rfl (by decide) ?_
  refine z_iconst hX (nI 0) dK_numberStarts_2 rfl ?_
  refine z_istore_n hX 3 dK_numberStarts_3 rfl (by decide) ?_
  refine zloop (P := fun e => Z 0 0 4 [some (.ref lk), some (.int (nI r0)), some (.int (nI (sp_it (sv_st to R bk) e (SV, r0)).2)), some (.int (nI e))] [] (wK cI lk g s kt rw vl sv bs ko (R) (V) ((sp_it (sv_st to R bk) e (SV, r0)).1) (B) (o2) (wy) ++ wG cI g f t n m fr to ++ wS cI cZ s g ib fi sk lu Mt Op h bk fin st lq)) m (fun e he ih => ?_) 0 (Nat.zero_le _)
  refine z_iload_n hX 3 dK_numberStarts_4 rfl rfl ?_
  refine z_aload_n hX 0 dK_numberStarts_5 rfl rfl ?_
  refine z_get hX 0 0 rfl rfl (zu inK) (by decide) (List.mem_cons_of_mem _ mw_151) rfl dK_numberStarts_6 ?_
  refine z_get hX 6 3 rfl rfl (zu inG) (by decide) (List.mem_cons_of_mem _ mw_56) rfl dK_numberStarts_9 ?_
  refine z_icmp_geN hX 57 (by omega) (by omega) dK_numberStarts_12 rfl (fun h12 => ?_) (fun h12 => ?_)
  · refine z_iload_n hX 2 dK_numberStarts_57 rfl rfl ?_
    refine z_iret hX rfl rfl rfl rfl dK_numberStarts_58 ?_
    have hem : e = m := by omega
    subst hem
    exact ⟨rfl, rfl⟩
  · have hoke := hok e (by omega)
    refine z_aload_n hX 0 dK_numberStarts_15 rfl rfl ?_
    refine z_get hX 0 1 rfl rfl (zu inK) (by decide) (List.mem_cons_of_mem _ mw_152) rfl dK_numberStarts_16 ?_
    refine z_get hX 9 1 rfl rfl (zu inS) (by decide) (List.mem_cons_of_mem _ mw_75) rfl dK_numberStarts_19 ?_
    refine z_iload_n hX 3 dK_numberStarts_22 rfl rfl ?_
    refine z_ldB hX 10 1 _ rfl rfl rfl (by omega) (by decide) dK_numberStarts_23 ?_
    refine z_if_eqB hX 51 dK_numberStarts_24 rfl (fun h24 => ?_) (fun h24 => ?_)
    · have hs2 : sp_it (sv_st to R bk) (e + 1) (SV, r0) = sp_it (sv_st to R bk) e (SV, r0) := if_neg (by rw [h24]; decide)
      refine z_iinc hX 3 dK_numberStarts_51 rfl (zi_1 _) (by decide) ?_
      refine z_goto hX 4 dK_numberStarts_54 rfl ?_
      have hz := ih (by omega)
      rw [hs2] at hz
      exact hz
    · have hs2 : sp_it (sv_st to R bk) (e + 1) (SV, r0) = (va_up (sp_it (sv_st to R bk) e (SV, r0)).1 e (sp_it (sv_st to R bk) e (SV, r0)).2, (sp_it (sv_st to R bk) e (SV, r0)).2 + R (to e)) := if_pos h24
      refine z_aload_n hX 0 dK_numberStarts_27 rfl rfl ?_
      refine z_get hX 0 5 rfl rfl (zu inK) (by decide) (List.mem_cons_of_mem _ mw_156) rfl dK_numberStarts_28 ?_
      refine z_iload_n hX 3 dK_numberStarts_31 rfl rfl ?_
      refine z_iload_n hX 2 dK_numberStarts_32 rfl rfl ?_
      refine z_stN hX 3 0 _ _ rfl rfl rfl rfl (by omega) (by decide) dK_numberStarts_33 ?_
      refine z_iload_n hX 2 dK_numberStarts_34 rfl rfl ?_
      refine z_aload_n hX 0 dK_numberStarts_35 rfl rfl ?_
      refine z_get hX 0 3 rfl rfl (zu inK) (by decide) (List.mem_cons_of_mem _ mw_154) rfl dK_numberStarts_36 ?_
      refine z_aload_n hX 0 dK_numberStarts_39 rfl rfl ?_
      refine z_get hX 0 0 rfl rfl (zu inK) (by decide) (List.mem_cons_of_mem _ mw_151) rfl dK_numberStarts_40 ?_
      refine z_get hX 6 2 rfl rfl (zu inG) (by decide) (List.mem_cons_of_mem _ mw_44) rfl dK_numberStarts_43 ?_
      refine z_iload_n hX 3 dK_numberStarts_46 rfl rfl ?_
      refine z_ldN hX 8 0 _ rfl rfl rfl (by omega) (by decide) dK_numberStarts_47 ?_
      refine z_ldN hX 1 0 _ rfl rfl rfl (by omega) (by decide) dK_numberStarts_48 ?_
      refine z_iaddN hX dK_numberStarts_49 ?_
      refine z_istore_n hX 2 dK_numberStarts_50 rfl (by decide) ?_
      refine z_iinc hX 3 dK_numberStarts_51 rfl (zi_1 _) (by decide) ?_
      refine z_goto hX 4 dK_numberStarts_54 rfl ?_
      have hz := ih (by omega)
      rw [hs2] at hz
      exact hz

set_option maxHeartbeats 1000000 in
set_option maxRecDepth 100000 in
theorem kK_number (l : Launch) (D : va_G) (cI cZ : ClassId) (lk g s kt rw vl sv bs ko : Nat) (R V SV : Nat → Nat) (B : Nat → Int) (o2 : Nat → Nat) (wy : Nat) (f t n m : Nat) (fr to : Nat → Nat) (ib fi sk lu : Nat) (Mt Op : Nat → Bool) (h : Nat) (bk : Nat → Bool) (fin st lq : Nat → Nat) (hn : 2 ≤ n ∧ n ≤ 12) (hm : m ≤ 24) (hok : ∀ e, e < m → fr e < n ∧ to e < n) (hfin : ∀ i, i < n → fin i < 12) : zM l yK_number wK_number rK_number D zCl (zTy cI cZ) zNW 0 0 [.ref lk] (wK cI lk g s kt rw vl sv bs ko (R) (V) (SV) (B) (o2) (wy) ++ wG cI g f t n m fr to ++ wS cI cZ s g ib fi sk lu Mt Op h bk fin st lq) (fun v wn => v = none ∧ wn = wK cI lk g s kt rw vl sv bs ko ((sv_num fr (ztg bk to) fin m n V R).2) ((sv_num fr (ztg bk to) fin m n V R).1) ((sp_it (sv_st to ((sv_num fr (ztg bk to) fin m n V R).2) bk) m (SV, ((sv_num fr (ztg bk to) fin m n V R).2) 0)).1) (B) (o2) ((sp_it (sv_st to ((sv_num fr (ztg bk to) fin m n V R).2) bk) m (SV, ((sv_num fr (ztg bk to) fin m n V R).2) 0)).2) ++ wG cI g f t n m fr to ++ wS cI cZ s g ib fi sk lu Mt Op h bk fin st lq) := by
  refine z_met2 cK_number 3 none rfl rfl (Nat.le_of_ble_eq_true rfl) rfl (fun Z hX => ?_)
  show Z 0 0 0 [some (.ref lk), none, none] [] (wK cI lk g s kt rw vl sv bs ko (R) (V) (SV) (B) (o2) (wy) ++ wG cI g f t n m fr to ++ wS cI cZ s g ib fi sk lu Mt Op h bk fin st lq)
  refine z_aload_n hX 0 dK_number_0 rfl rfl ?_
  refine z_get hX 0 3 rfl rfl (zu inK) (by decide) (List.mem_cons_of_mem _ mw_154) rfl dK_number_1 ?_
  refine z_iconst hX (nI 1) dK_number_4 rfl ?_
  refine z_iconst hX (nI 1) dK_number_5 rfl ?_
  refine z_stN hX 1 0 _ _ rfl rfl rfl rfl (by omega) (by decide) dK_number_6 ?_
  refine z_iconst hX (nI 0) dK_number_7 rfl ?_
  refine z_istore_n hX 1 dK_number_8 rfl (by decide) ?_
  refine zloop (P := fun i => Z 0 0 9 [some (.ref lk), some (.int (nI i)), none] [] (wK cI lk g s kt rw vl sv bs ko ((sp_it (sv_ns fr (ztg bk to) fin m) i (V, va_up R 1 1)).2) ((sp_it (sv_ns fr (ztg bk to) fin m) i (V, va_up R 1 1)).1) (SV) (B) (o2) (wy) ++ wG cI g f t n m fr to ++ wS cI cZ s g ib fi sk lu Mt Op h bk fin st lq)) n (fun i hi ih => ?_) 0 (Nat.zero_le _)
  refine z_iload_n hX 1 dK_number_9 rfl rfl ?_
  refine z_aload_n hX 0 dK_number_10 rfl rfl ?_
  refine z_get hX 0 0 rfl rfl (zu inK) (by decide) (List.mem_cons_of_mem _ mw_151) rfl dK_number_11 ?_
  refine z_get hX 6 0 rfl rfl (zu inG) (by decide) (List.mem_cons_of_mem _ mw_35) rfl dK_number_14 ?_
  refine z_icmp_geN hX 52 (by omega) (by omega) dK_number_17 rfl (fun h17 => ?_) (fun h17 => ?_)
  · have him : i = n := by omega
    rw [him]
    have hnn : sp_it (sv_ns fr (ztg bk to) fin m) n (V, va_up R 1 1) = sv_num fr (ztg bk to) fin m n V R := rfl
    rw [hnn]
    refine z_aload_n hX 0 dK_number_52 rfl rfl ?_
    refine z_aload_n hX 0 dK_number_53 rfl rfl ?_
    refine z_aload_n hX 0 dK_number_54 rfl rfl ?_
    refine z_get hX 0 3 rfl rfl (zu inK) (by decide) (List.mem_cons_of_mem _ mw_154) rfl dK_number_55 ?_
    refine z_iconst hX (nI 0) dK_number_58 rfl ?_
    refine z_ldN hX 1 0 _ rfl rfl rfl (by omega) (by decide) dK_number_59 ?_
    refine z_Vm hX (kK_numberStarts l D cI cZ lk g s kt rw vl sv bs ko ((sv_num fr (ztg bk to) fin m n V R).2) ((sv_num fr (ztg bk to) fin m n V R).1) (SV) (B) (o2) (wy) f t n m fr to ib fi sk lu Mt Op h bk fin st lq (((sv_num fr (ztg bk to) fin m n V R).2) 0) hn hm hok) mw_304 mw_306 mp_1_3 mw_7 mw_307 rfl rfl ⟨rfl, by decide, by decide, rfl⟩ (by decide) 0 rfl rfl rfl rfl (Nat.le_of_ble_eq_true rfl) dK_number_60 (by decide) [0, 1, 2, 3, 4, 5, 6, 7, 8, 9, 10, 11, 12, 13] rfl rfl (fun v wn hv => ?_)
    obtain ⟨rfl, rfl⟩ := hv
    refine ⟨by simp, ?_⟩
    refine z_put hX 0 8 rfl rfl (zu inK) tyK tyK_ok nmK (by decide) (List.mem_cons_of_mem _ mw_159) (Or.inl rfl) rfl rfl rfl (Nat.le_of_ble_eq_true rfl) dK_number_63 ?_
    refine z_vret hX rfl rfl rfl dK_number_66 ?_
    exact ⟨rfl, rfl⟩
  · have hfi := hfin i (by omega)
    refine z_aload_n hX 0 dK_number_20 rfl rfl ?_
    refine z_get hX 0 1 rfl rfl (zu inK) (by decide) (List.mem_cons_of_mem _ mw_152) rfl dK_number_21 ?_
    refine z_get hX 9 2 rfl rfl (zu inS) (by decide) (List.mem_cons_of_mem _ mw_79) rfl dK_number_24 ?_
    refine z_iload_n hX 1 dK_number_27 rfl rfl ?_
    refine z_ldN hX 11 0 _ rfl rfl rfl (by omega) (by decide) dK_number_28 ?_
    refine z_istore_n hX 2 dK_number_29 rfl (by decide) ?_
    refine z_iload_n hX 2 dK_number_30 rfl rfl ?_
    refine z_iconst hX (nI 1) dK_number_31 rfl ?_
    refine z_icmp_eqN hX 46 (by omega) (by omega) dK_number_32 rfl (fun h32 => ?_) (fun h32 => ?_)
    · have hs2 : sp_it (sv_ns fr (ztg bk to) fin m) (i + 1) (V, va_up R 1 1) = sp_it (sv_ns fr (ztg bk to) fin m) i (V, va_up R 1 1) := if_pos h32
      refine z_iinc hX 1 dK_number_46 rfl (zi_1 _) (by decide) ?_
      refine z_goto hX 9 dK_number_49 rfl ?_
      have hz := ih (by omega)
      rw [hs2] at hz
      exact z_le2 hX hz (And.intro rfl (And.intro rfl trivial))
    · have hs2 : sp_it (sv_ns fr (ztg bk to) fin m) (i + 1) (V, va_up R 1 1) = ((sv_from fr (ztg bk to) (sp_it (sv_ns fr (ztg bk to) fin m) i (V, va_up R 1 1)).2 (fin i) m (sp_it (sv_ns fr (ztg bk to) fin m) i (V, va_up R 1 1)).1).1, va_up (sp_it (sv_ns fr (ztg bk to) fin m) i (V, va_up R 1 1)).2 (fin i) (sv_from fr (ztg bk to) (sp_it (sv_ns fr (ztg bk to) fin m) i (V, va_up R 1 1)).2 (fin i) m (sp_it (sv_ns fr (ztg bk to) fin m) i (V, va_up R 1 1)).1).2) := if_neg h32
      refine z_aload_n hX 0 dK_number_35 rfl rfl ?_
      refine z_get hX 0 3 rfl rfl (zu inK) (by decide) (List.mem_cons_of_mem _ mw_154) rfl dK_number_36 ?_
      refine z_iload_n hX 2 dK_number_39 rfl rfl ?_
      refine z_aload_n hX 0 dK_number_40 rfl rfl ?_
      refine z_iload_n hX 2 dK_number_41 rfl rfl ?_
      refine z_Vm hX (kK_numberFrom l D cI cZ lk g s kt rw vl sv bs ko ((sp_it (sv_ns fr (ztg bk to) fin m) i (V, va_up R 1 1)).2) ((sp_it (sv_ns fr (ztg bk to) fin m) i (V, va_up R 1 1)).1) (SV) (B) (o2) (wy) f t n m fr to ib fi sk lu Mt Op h bk fin st lq (fin i) (by omega) hn hm hok) mw_296 mw_298 mp_1_2 mw_7 mw_299 rfl rfl ⟨rfl, by decide, by decide, rfl⟩ (by decide) 0 rfl rfl rfl rfl (Nat.le_of_ble_eq_true rfl) dK_number_42 (by decide) [0, 1, 2, 3, 4, 5, 6, 7, 8, 9, 10, 11, 12, 13] rfl rfl (fun v wn hv => ?_)
      obtain ⟨rfl, rfl⟩ := hv
      refine ⟨by simp, ?_⟩
      refine z_stN hX 1 0 _ _ rfl rfl rfl rfl (by omega) (by decide) dK_number_45 ?_
      refine z_iinc hX 1 dK_number_46 rfl (zi_1 _) (by decide) ?_
      refine z_goto hX 9 dK_number_49 rfl ?_
      have hz := ih (by omega)
      rw [hs2] at hz
      exact z_le2 hX hz (And.intro rfl (And.intro rfl trivial))

set_option maxHeartbeats 1000000 in
set_option maxRecDepth 100000 in
theorem kK_leaveOutBack (l : Launch) (D : va_G) (cI cZ : ClassId) (lk g s kt rw vl sv bs ko : Nat) (R V SV : Nat → Nat) (B : Nat → Int) (o2 : Nat → Nat) (wy : Nat) (f t n m : Nat) (fr to : Nat → Nat) (ib fi sk lu : Nat) (Mt Op : Nat → Bool) (h : Nat) (bk : Nat → Bool) (fin st lq : Nat → Nat) (eo : Nat) (eord : Nat → Nat) (hn : 2 ≤ n ∧ n ≤ 12) (hm : m ≤ 24) (hok : ∀ e, e < m → fr e < n ∧ to e < n) (heo : ∀ i, i < m → eord i < 24) : zM l yK_leaveOutBack wK_leaveOutBack rK_leaveOutBack D zCl (zTy cI cZ) zNW 0 0 [.ref lk, .ref eo] (wK cI lk g s kt rw vl sv bs ko (R) (V) (SV) (B) (o2) (wy) ++ wG cI g f t n m fr to ++ wS cI cZ s g ib fi sk lu Mt Op h bk fin st lq ++ [(eo, .inl (cI, 24, .inl (aN eord)))]) (fun v wn => v = some (.int (nI (sp_it (st_f bk eord) m (o2, 0)).2)) ∧ wn = wK cI lk g s kt rw vl sv bs ko (R) (V) (SV) (B) ((sp_it (st_f bk eord) m (o2, 0)).1) (wy) ++ wG cI g f t n m fr to ++ wS cI cZ s g ib fi sk lu Mt Op h bk fin st lq ++ [(eo, .inl (cI, 24, .inl (aN eord)))]) := by
  refine z_met2 cK_leaveOutBack 4 (some .int) rfl rfl (Nat.le_of_ble_eq_true rfl) rfl (fun Z hX => ?_)
  show Z 0 0 0 [some (.ref lk), some (.ref eo), none, none] [] (wK cI lk g s kt rw vl sv bs ko (R) (V) (SV) (B) (o2) (wy) ++ wG cI g f t n m fr to ++ wS cI cZ s g ib fi sk lu Mt Op h bk fin st lq ++ [(eo, .inl (cI, 24, .inl (aN eord)))])
  refine z_iconst hX (nI 0) dK_leaveOutBack_0 rfl ?_
  refine z_istore_n hX 2 dK_leaveOutBack_1 rfl (by decide) ?_
  refine z_iconst hX (nI 0) dK_leaveOutBack_2 rfl ?_
  refine z_istore_n hX 3 dK_leaveOutBack_3 rfl (by decide) ?_
  refine zloop (P := fun i => Z 0 0 4 [some (.ref lk), some (.ref eo), some (.int (nI (sp_it (st_f bk eord) i (o2, 0)).2)), some (.int (nI i))] [] (wK cI lk g s kt rw vl sv bs ko (R) (V) (SV) (B) ((sp_it (st_f bk eord) i (o2, 0)).1) (wy) ++ wG cI g f t n m fr to ++ wS cI cZ s g ib fi sk lu Mt Op h bk fin st lq ++ [(eo, .inl (cI, 24, .inl (aN eord)))])) m (fun i hi ih => ?_) 0 (Nat.zero_le _)
  refine z_iload_n hX 3 dK_leaveOutBack_4 rfl rfl ?_
  refine z_aload_n hX 0 dK_leaveOutBack_5 rfl rfl ?_
  refine z_get hX 0 0 rfl rfl (zu inK) (by decide) (List.mem_cons_of_mem _ mw_151) rfl dK_leaveOutBack_6 ?_
  refine z_get hX 6 3 rfl rfl (zu inG) (by decide) (List.mem_cons_of_mem _ mw_56) rfl dK_leaveOutBack_9 ?_
  refine z_icmp_geN hX 47 (by omega) (by omega) dK_leaveOutBack_12 rfl (fun h12 => ?_) (fun h12 => ?_)
  · refine z_iload_n hX 2 dK_leaveOutBack_47 rfl rfl ?_
    refine z_iret hX rfl rfl rfl rfl dK_leaveOutBack_48 ?_
    have him : i = m := by omega
    subst him
    exact ⟨rfl, rfl⟩
  · have heoi := heo i (by omega)
    have hle := st_f_le bk eord o2 i
    refine z_aload_n hX 0 dK_leaveOutBack_15 rfl rfl ?_
    refine z_get hX 0 1 rfl rfl (zu inK) (by decide) (List.mem_cons_of_mem _ mw_152) rfl dK_leaveOutBack_16 ?_
    refine z_get hX 9 1 rfl rfl (zu inS) (by decide) (List.mem_cons_of_mem _ mw_75) rfl dK_leaveOutBack_19 ?_
    refine z_aload_n hX 1 dK_leaveOutBack_22 rfl rfl ?_
    refine z_iload_n hX 3 dK_leaveOutBack_23 rfl rfl ?_
    refine z_ldN hX 14 0 _ rfl rfl rfl (by omega) (by decide) dK_leaveOutBack_24 ?_
    refine z_ldB hX 10 1 _ rfl rfl rfl (by omega) (by decide) dK_leaveOutBack_25 ?_
    refine z_if_neB hX 41 dK_leaveOutBack_26 rfl (fun h26 => ?_) (fun h26 => ?_)
    · have hs2 : sp_it (st_f bk eord) (i + 1) (o2, 0) = sp_it (st_f bk eord) i (o2, 0) := if_pos h26
      refine z_iinc hX 3 dK_leaveOutBack_41 rfl (zi_1 _) (by decide) ?_
      refine z_goto hX 4 dK_leaveOutBack_44 rfl ?_
      have hz := ih (by omega)
      rw [hs2] at hz
      exact hz
    · have hs2 : sp_it (st_f bk eord) (i + 1) (o2, 0) = (va_up (sp_it (st_f bk eord) i (o2, 0)).1 (sp_it (st_f bk eord) i (o2, 0)).2 (eord i), (sp_it (st_f bk eord) i (o2, 0)).2 + 1) := if_neg (by rw [h26]; decide)
      refine z_aload_n hX 0 dK_leaveOutBack_29 rfl rfl ?_
      refine z_get hX 0 7 rfl rfl (zu inK) (by decide) (List.mem_cons_of_mem _ mw_158) rfl dK_leaveOutBack_30 ?_
      refine z_iload_n hX 2 dK_leaveOutBack_33 rfl rfl ?_
      refine z_aload_n hX 1 dK_leaveOutBack_34 rfl rfl ?_
      refine z_iload_n hX 3 dK_leaveOutBack_35 rfl rfl ?_
      refine z_ldN hX 14 0 _ rfl rfl rfl (by omega) (by decide) dK_leaveOutBack_36 ?_
      refine z_stN hX 5 0 _ _ rfl rfl rfl rfl (by omega) (by decide) dK_leaveOutBack_37 ?_
      refine z_iinc hX 2 dK_leaveOutBack_38 rfl (zi_1 _) (by decide) ?_
      refine z_iinc hX 3 dK_leaveOutBack_41 rfl (zi_1 _) (by decide) ?_
      refine z_goto hX 4 dK_leaveOutBack_44 rfl ?_
      have hz := ih (by omega)
      rw [hs2] at hz
      exact hz

set_option maxHeartbeats 1000000 in
set_option maxRecDepth 100000 in
theorem kK_spreadOver (l : Launch) (D : va_G) (cI cZ : ClassId) (lk g s kt rw vl sv bs ko : Nat) (R V SV : Nat → Nat) (B : Nat → Int) (o2 : Nat → Nat) (wy : Nat) (f t n m : Nat) (fr to : Nat → Nat) (ib fi sk lu : Nat) (Mt Op : Nat → Bool) (h : Nat) (bk : Nat → Bool) (fin st lq : Nat → Nat) (e : Nat) (he : e < m) (S : Nat → Bool) (hn : 2 ≤ n ∧ n ≤ 12) (hm : m ≤ 24) (hok : ∀ e, e < m → fr e < n ∧ to e < n) : zM l yK_spreadOver wK_spreadOver rK_spreadOver D zCl (zTy cI cZ) zNW 0 0 [.ref lk, .int (nI e), .int (bS S)] (wK cI lk g s kt rw vl sv bs ko (R) (V) (SV) (B) (o2) (wy) ++ wG cI g f t n m fr to ++ wS cI cZ s g ib fi sk lu Mt Op h bk fin st lq) (fun v wn => v = some (.int (bS (za fr to V e (S, B)).1)) ∧ wn = wK cI lk g s kt rw vl sv bs ko (R) (V) (SV) ((za fr to V e (S, B)).2) (o2) (wy) ++ wG cI g f t n m fr to ++ wS cI cZ s g ib fi sk lu Mt Op h bk fin st lq) := by
  have hoke := hok e he
  refine z_met2 cK_spreadOver 5 (some .int) rfl rfl (Nat.le_of_ble_eq_true rfl) rfl (fun Z hX => ?_)
  show Z 0 0 0 [some (.ref lk), some (.int (nI e)), some (.int (bS S)), none, none] [] (wK cI lk g s kt rw vl sv bs ko (R) (V) (SV) (B) (o2) (wy) ++ wG cI g f t n m fr to ++ wS cI cZ s g ib fi sk lu Mt Op h bk fin st lq)
  refine z_aload_n hX 0 dK_spreadOver_0 rfl rfl ?_
  refine z_get hX 0 0 rfl rfl (zu inK) (by decide) (List.mem_cons_of_mem _ mw_151) rfl dK_spreadOver_1 ?_
  refine z_get hX 6 1 rfl rfl (zu inG) (by decide) (List.mem_cons_of_mem _ mw_39) rfl dK_spreadOver_4 ?_
  refine z_iload_n hX 1 dK_spreadOver_7 rfl rfl ?_
  refine z_ldN hX 7 0 _ rfl rfl rfl (by omega) (by decide) dK_spreadOver_8 ?_
  refine z_istore_n hX 3 dK_spreadOver_9 rfl (by decide) ?_
  refine z_aload_n hX 0 dK_spreadOver_10 rfl rfl ?_
  refine z_get hX 0 0 rfl rfl (zu inK) (by decide) (List.mem_cons_of_mem _ mw_151) rfl dK_spreadOver_11 ?_
  refine z_get hX 6 2 rfl rfl (zu inG) (by decide) (List.mem_cons_of_mem _ mw_44) rfl dK_spreadOver_14 ?_
  refine z_iload_n hX 1 dK_spreadOver_17 rfl rfl ?_
  refine z_ldN hX 8 0 _ rfl rfl rfl (by omega) (by decide) dK_spreadOver_18 ?_
  refine z_istore hX 4 dK_spreadOver_19 (by decide) ?_
  refine z_iload_n hX 2 dK_spreadOver_21 rfl rfl ?_
  refine z_iload_n hX 3 dK_spreadOver_22 rfl rfl ?_
  refine z_Nr hX (kA_isIn l D cI cZ S (fr e) (by omega)) "SpanningProbes" mw_272 (by decide) mw_1 mw_271 rfl rfl ⟨by decide, by decide, rfl⟩ (by decide) rfl rfl (Nat.le_of_ble_eq_true rfl) dK_spreadOver_23 (by decide) [] rfl rfl (fun v wn hv => ?_)
  obtain ⟨rfl, rfl⟩ := hv
  refine ⟨rfl, ?_⟩
  refine z_if_eqB hX 61 dK_spreadOver_26 rfl (fun h26 => ?_) (fun h26 => ?_)
  · refine z_iload_n hX 2 dK_spreadOver_61 rfl rfl ?_
    refine z_iload hX 4 dK_spreadOver_62 rfl ?_
    refine z_Nr hX (kA_isIn l D cI cZ S (to e) (by omega)) "SpanningProbes" mw_272 (by decide) mw_1 mw_271 rfl rfl ⟨by decide, by decide, rfl⟩ (by decide) rfl rfl (Nat.le_of_ble_eq_true rfl) dK_spreadOver_64 (by decide) [] rfl rfl (fun v wn hv => ?_)
    obtain ⟨rfl, rfl⟩ := hv
    refine ⟨rfl, ?_⟩
    refine z_if_eqB hX 101 dK_spreadOver_67 rfl (fun h67 => ?_) (fun h67 => ?_)
    · have hr : za fr to V e (S, B) = (S, B) := za_3 (show S (fr e) = S (to e) by rw [h67]; first | exact h26 | (rw [h35] at h67; cases h67))
      refine z_iload_n hX 2 dK_spreadOver_101 rfl rfl ?_
      refine z_iret hX rfl rfl rfl rfl dK_spreadOver_102 ?_
      rw [hr]
      exact ⟨rfl, rfl⟩
    · refine z_iload_n hX 2 dK_spreadOver_70 rfl rfl ?_
      refine z_iload_n hX 3 dK_spreadOver_71 rfl rfl ?_
      refine z_Nr hX (kA_isIn l D cI cZ S (fr e) (by omega)) "SpanningProbes" mw_272 (by decide) mw_1 mw_271 rfl rfl ⟨by decide, by decide, rfl⟩ (by decide) rfl rfl (Nat.le_of_ble_eq_true rfl) dK_spreadOver_72 (by decide) [] rfl rfl (fun v wn hv => ?_)
      obtain ⟨rfl, rfl⟩ := hv
      refine ⟨rfl, ?_⟩
      refine z_if_neB hX 101 dK_spreadOver_75 rfl (fun h75 => ?_) (fun h75 => ?_)
      · have hr : za fr to V e (S, B) = (S, B) := za_3 (show S (fr e) = S (to e) by rw [h67, h75])
        refine z_iload_n hX 2 dK_spreadOver_101 rfl rfl ?_
        refine z_iret hX rfl rfl rfl rfl dK_spreadOver_102 ?_
        rw [hr]
        exact ⟨rfl, rfl⟩
      · have hr : za fr to V e (S, B) = (va_up S (fr e) true, va_up B (fr e) (B (to e) - V e)) := za_2 h67 h75
        have hx2 : va_up (va_up S (fr e) true) (to e) true = va_up S (fr e) true := va_up_id (by
          by_cases hc : to e = fr e
          · rw [hc, sp_up_s]
          · rw [sp_up_n _ _ hc]; exact h67)
        refine z_aload_n hX 0 dK_spreadOver_78 rfl rfl ?_
        refine z_get hX 0 6 rfl rfl (zu inK) (by decide) (List.mem_cons_of_mem _ mw_157) rfl dK_spreadOver_79 ?_
        refine z_iload_n hX 3 dK_spreadOver_82 rfl rfl ?_
        refine z_aload_n hX 0 dK_spreadOver_83 rfl rfl ?_
        refine z_get hX 0 6 rfl rfl (zu inK) (by decide) (List.mem_cons_of_mem _ mw_157) rfl dK_spreadOver_84 ?_
        refine z_iload hX 4 dK_spreadOver_87 rfl ?_
        refine z_ldI hX 4 0 _ rfl rfl rfl (by omega) (by decide) dK_spreadOver_89 ?_
        refine z_aload_n hX 0 dK_spreadOver_90 rfl rfl ?_
        refine z_get hX 0 4 rfl rfl (zu inK) (by decide) (List.mem_cons_of_mem _ mw_155) rfl dK_spreadOver_91 ?_
        refine z_iload_n hX 1 dK_spreadOver_94 rfl rfl ?_
        refine z_ldN hX 2 0 _ rfl rfl rfl (by omega) (by decide) dK_spreadOver_95 ?_
        refine z_isubI hX (B (to e)) (V e : Int) rfl (zi_of _) dK_spreadOver_96 ?_
        refine z_stI hX 4 0 _ _ rfl rfl rfl rfl (by omega) (by decide) dK_spreadOver_97 ?_
        refine z_goto hX 103 dK_spreadOver_98 rfl ?_
        refine z_iload_n hX 2 dK_spreadOver_103 rfl rfl ?_
        refine z_iload_n hX 3 dK_spreadOver_104 rfl rfl ?_
        refine z_Nr hX (kA_bit l D cI cZ (fr e) (by omega)) "SpanningProbes" mw_261 (by decide) mw_1 mw_260 rfl rfl ⟨by decide, by decide, rfl⟩ (by decide) rfl rfl (Nat.le_of_ble_eq_true rfl) dK_spreadOver_105 (by decide) [] rfl rfl (fun v wn hv => ?_)
        obtain ⟨rfl, rfl⟩ := hv
        refine ⟨rfl, ?_⟩
        refine z_ior hX dK_spreadOver_108 ?_
        rw [bS_put]
        refine z_iload hX 4 dK_spreadOver_109 rfl ?_
        refine z_Nr hX (kA_bit l D cI cZ (to e) (by omega)) "SpanningProbes" mw_261 (by decide) mw_1 mw_260 rfl rfl ⟨by decide, by decide, rfl⟩ (by decide) rfl rfl (Nat.le_of_ble_eq_true rfl) dK_spreadOver_111 (by decide) [] rfl rfl (fun v wn hv => ?_)
        obtain ⟨rfl, rfl⟩ := hv
        refine ⟨rfl, ?_⟩
        refine z_ior hX dK_spreadOver_114 ?_
        rw [bS_put, hx2]
        refine z_iret hX rfl rfl rfl rfl dK_spreadOver_115 ?_
        rw [hr]
        exact ⟨rfl, rfl⟩
  · refine z_iload_n hX 2 dK_spreadOver_29 rfl rfl ?_
    refine z_iload hX 4 dK_spreadOver_30 rfl ?_
    refine z_Nr hX (kA_isIn l D cI cZ S (to e) (by omega)) "SpanningProbes" mw_272 (by decide) mw_1 mw_271 rfl rfl ⟨by decide, by decide, rfl⟩ (by decide) rfl rfl (Nat.le_of_ble_eq_true rfl) dK_spreadOver_32 (by decide) [] rfl rfl (fun v wn hv => ?_)
    obtain ⟨rfl, rfl⟩ := hv
    refine ⟨rfl, ?_⟩
    refine z_if_neB hX 61 dK_spreadOver_35 rfl (fun h35 => ?_) (fun h35 => ?_)
    · refine z_iload_n hX 2 dK_spreadOver_61 rfl rfl ?_
      refine z_iload hX 4 dK_spreadOver_62 rfl ?_
      refine z_Nr hX (kA_isIn l D cI cZ S (to e) (by omega)) "SpanningProbes" mw_272 (by decide) mw_1 mw_271 rfl rfl ⟨by decide, by decide, rfl⟩ (by decide) rfl rfl (Nat.le_of_ble_eq_true rfl) dK_spreadOver_64 (by decide) [] rfl rfl (fun v wn hv => ?_)
      obtain ⟨rfl, rfl⟩ := hv
      refine ⟨rfl, ?_⟩
      refine z_if_eqB hX 101 dK_spreadOver_67 rfl (fun h67 => ?_) (fun h67 => ?_)
      · have hr : za fr to V e (S, B) = (S, B) := za_3 (show S (fr e) = S (to e) by rw [h67]; first | exact h26 | (rw [h35] at h67; cases h67))
        refine z_iload_n hX 2 dK_spreadOver_101 rfl rfl ?_
        refine z_iret hX rfl rfl rfl rfl dK_spreadOver_102 ?_
        rw [hr]
        exact ⟨rfl, rfl⟩
      · refine z_iload_n hX 2 dK_spreadOver_70 rfl rfl ?_
        refine z_iload_n hX 3 dK_spreadOver_71 rfl rfl ?_
        refine z_Nr hX (kA_isIn l D cI cZ S (fr e) (by omega)) "SpanningProbes" mw_272 (by decide) mw_1 mw_271 rfl rfl ⟨by decide, by decide, rfl⟩ (by decide) rfl rfl (Nat.le_of_ble_eq_true rfl) dK_spreadOver_72 (by decide) [] rfl rfl (fun v wn hv => ?_)
        obtain ⟨rfl, rfl⟩ := hv
        refine ⟨rfl, ?_⟩
        refine z_if_neB hX 101 dK_spreadOver_75 rfl (fun h75 => ?_) (fun h75 => ?_)
        · have hr : za fr to V e (S, B) = (S, B) := za_3 (show S (fr e) = S (to e) by rw [h67, h75])
          refine z_iload_n hX 2 dK_spreadOver_101 rfl rfl ?_
          refine z_iret hX rfl rfl rfl rfl dK_spreadOver_102 ?_
          rw [hr]
          exact ⟨rfl, rfl⟩
        · have hr : za fr to V e (S, B) = (va_up S (fr e) true, va_up B (fr e) (B (to e) - V e)) := za_2 h67 h75
          have hx2 : va_up (va_up S (fr e) true) (to e) true = va_up S (fr e) true := va_up_id (by
            by_cases hc : to e = fr e
            · rw [hc, sp_up_s]
            · rw [sp_up_n _ _ hc]; exact h67)
          refine z_aload_n hX 0 dK_spreadOver_78 rfl rfl ?_
          refine z_get hX 0 6 rfl rfl (zu inK) (by decide) (List.mem_cons_of_mem _ mw_157) rfl dK_spreadOver_79 ?_
          refine z_iload_n hX 3 dK_spreadOver_82 rfl rfl ?_
          refine z_aload_n hX 0 dK_spreadOver_83 rfl rfl ?_
          refine z_get hX 0 6 rfl rfl (zu inK) (by decide) (List.mem_cons_of_mem _ mw_157) rfl dK_spreadOver_84 ?_
          refine z_iload hX 4 dK_spreadOver_87 rfl ?_
          refine z_ldI hX 4 0 _ rfl rfl rfl (by omega) (by decide) dK_spreadOver_89 ?_
          refine z_aload_n hX 0 dK_spreadOver_90 rfl rfl ?_
          refine z_get hX 0 4 rfl rfl (zu inK) (by decide) (List.mem_cons_of_mem _ mw_155) rfl dK_spreadOver_91 ?_
          refine z_iload_n hX 1 dK_spreadOver_94 rfl rfl ?_
          refine z_ldN hX 2 0 _ rfl rfl rfl (by omega) (by decide) dK_spreadOver_95 ?_
          refine z_isubI hX (B (to e)) (V e : Int) rfl (zi_of _) dK_spreadOver_96 ?_
          refine z_stI hX 4 0 _ _ rfl rfl rfl rfl (by omega) (by decide) dK_spreadOver_97 ?_
          refine z_goto hX 103 dK_spreadOver_98 rfl ?_
          refine z_iload_n hX 2 dK_spreadOver_103 rfl rfl ?_
          refine z_iload_n hX 3 dK_spreadOver_104 rfl rfl ?_
          refine z_Nr hX (kA_bit l D cI cZ (fr e) (by omega)) "SpanningProbes" mw_261 (by decide) mw_1 mw_260 rfl rfl ⟨by decide, by decide, rfl⟩ (by decide) rfl rfl (Nat.le_of_ble_eq_true rfl) dK_spreadOver_105 (by decide) [] rfl rfl (fun v wn hv => ?_)
          obtain ⟨rfl, rfl⟩ := hv
          refine ⟨rfl, ?_⟩
          refine z_ior hX dK_spreadOver_108 ?_
          rw [bS_put]
          refine z_iload hX 4 dK_spreadOver_109 rfl ?_
          refine z_Nr hX (kA_bit l D cI cZ (to e) (by omega)) "SpanningProbes" mw_261 (by decide) mw_1 mw_260 rfl rfl ⟨by decide, by decide, rfl⟩ (by decide) rfl rfl (Nat.le_of_ble_eq_true rfl) dK_spreadOver_111 (by decide) [] rfl rfl (fun v wn hv => ?_)
          obtain ⟨rfl, rfl⟩ := hv
          refine ⟨rfl, ?_⟩
          refine z_ior hX dK_spreadOver_114 ?_
          rw [bS_put, hx2]
          refine z_iret hX rfl rfl rfl rfl dK_spreadOver_115 ?_
          rw [hr]
          exact ⟨rfl, rfl⟩
    · have hr : za fr to V e (S, B) = (va_up S (to e) true, va_up B (to e) (B (fr e) + V e)) := za_1 h26 h35
      have hx2 : va_up (va_up S (fr e) true) (to e) true = va_up S (to e) true := by rw [va_up_id h26]
      refine z_aload_n hX 0 dK_spreadOver_38 rfl rfl ?_
      refine z_get hX 0 6 rfl rfl (zu inK) (by decide) (List.mem_cons_of_mem _ mw_157) rfl dK_spreadOver_39 ?_
      refine z_iload hX 4 dK_spreadOver_42 rfl ?_
      refine z_aload_n hX 0 dK_spreadOver_44 rfl rfl ?_
      refine z_get hX 0 6 rfl rfl (zu inK) (by decide) (List.mem_cons_of_mem _ mw_157) rfl dK_spreadOver_45 ?_
      refine z_iload_n hX 3 dK_spreadOver_48 rfl rfl ?_
      refine z_ldI hX 4 0 _ rfl rfl rfl (by omega) (by decide) dK_spreadOver_49 ?_
      refine z_aload_n hX 0 dK_spreadOver_50 rfl rfl ?_
      refine z_get hX 0 4 rfl rfl (zu inK) (by decide) (List.mem_cons_of_mem _ mw_155) rfl dK_spreadOver_51 ?_
      refine z_iload_n hX 1 dK_spreadOver_54 rfl rfl ?_
      refine z_ldN hX 2 0 _ rfl rfl rfl (by omega) (by decide) dK_spreadOver_55 ?_
      refine z_iaddI hX (B (fr e)) (V e : Int) rfl (zi_of _) dK_spreadOver_56 ?_
      refine z_stI hX 4 0 _ _ rfl rfl rfl rfl (by omega) (by decide) dK_spreadOver_57 ?_
      refine z_goto hX 103 dK_spreadOver_58 rfl ?_
      refine z_iload_n hX 2 dK_spreadOver_103 rfl rfl ?_
      refine z_iload_n hX 3 dK_spreadOver_104 rfl rfl ?_
      refine z_Nr hX (kA_bit l D cI cZ (fr e) (by omega)) "SpanningProbes" mw_261 (by decide) mw_1 mw_260 rfl rfl ⟨by decide, by decide, rfl⟩ (by decide) rfl rfl (Nat.le_of_ble_eq_true rfl) dK_spreadOver_105 (by decide) [] rfl rfl (fun v wn hv => ?_)
      obtain ⟨rfl, rfl⟩ := hv
      refine ⟨rfl, ?_⟩
      refine z_ior hX dK_spreadOver_108 ?_
      rw [bS_put]
      refine z_iload hX 4 dK_spreadOver_109 rfl ?_
      refine z_Nr hX (kA_bit l D cI cZ (to e) (by omega)) "SpanningProbes" mw_261 (by decide) mw_1 mw_260 rfl rfl ⟨by decide, by decide, rfl⟩ (by decide) rfl rfl (Nat.le_of_ble_eq_true rfl) dK_spreadOver_111 (by decide) [] rfl rfl (fun v wn hv => ?_)
      obtain ⟨rfl, rfl⟩ := hv
      refine ⟨rfl, ?_⟩
      refine z_ior hX dK_spreadOver_114 ?_
      rw [bS_put, hx2]
      refine z_iret hX rfl rfl rfl rfl dK_spreadOver_115 ?_
      rw [hr]
      exact ⟨rfl, rfl⟩
end
section
/-! Links: spread, ways -/
set_option maxHeartbeats 1000000 in
set_option maxRecDepth 100000 in
theorem kK_startOfWay (l : Launch) (D : va_G) (cI cZ : ClassId) (lk g s kt rw vl sv bs ko : Nat) (R V SV : Nat → Nat) (B : Nat → Int) (o2 : Nat → Nat) (wy : Nat) (f t n m : Nat) (fr to : Nat → Nat) (ib fi sk lu : Nat) (Mt Op : Nat → Bool) (h : Nat) (bk : Nat → Bool) (fin st lq : Nat → Nat) (w : Nat) (hw : w < 2147483648) (hsv : ∀ e, e < m → bk e = true → SV e < 2147483648) (hn : 2 ≤ n ∧ n ≤ 12) (hm : m ≤ 24) (hok : ∀ e, e < m → fr e < n ∧ to e < n) : zM l yK_startOfWay wK_startOfWay rK_startOfWay D zCl (zTy cI cZ) zNW 0 0 [.ref lk, .int (nI w)] (wK cI lk g s kt rw vl sv bs ko (R) (V) (SV) (B) (o2) (wy) ++ wG cI g f t n m fr to ++ wS cI cZ s g ib fi sk lu Mt Op h bk fin st lq) (fun v wn => v = some (.int (zL (sw_last (zps bk SV w) m))) ∧ wn = wK cI lk g s kt rw vl sv bs ko (R) (V) (SV) (B) (o2) (wy) ++ wG cI g f t n m fr to ++ wS cI cZ s g ib fi sk lu Mt Op h bk fin st lq) := by
  refine z_met2 cK_startOfWay 4 (some .int) rfl rfl (Nat.le_of_ble_eq_true rfl) rfl (fun Z hX => ?_)
  show Z 0 0 0 [some (.ref lk), some (.int (nI w)), none, none] [] (wK cI lk g s kt rw vl sv bs ko (R) (V) (SV) (B) (o2) (wy) ++ wG cI g f t n m fr to ++ wS cI cZ s g ib fi sk lu Mt Op h bk fin st lq)
  refine z_iconst hX (-1) dK_startOfWay_0 rfl ?_
  refine z_istore_n hX 2 dK_startOfWay_1 rfl (by decide) ?_
  refine z_iconst hX (nI 0) dK_startOfWay_2 rfl ?_
  refine z_istore_n hX 3 dK_startOfWay_3 rfl (by decide) ?_
  refine zloop (P := fun e => Z 0 0 4 [some (.ref lk), some (.int (nI w)), some (.int (zL (sw_last (zps bk SV w) e))), some (.int (nI e))] [] (wK cI lk g s kt rw vl sv bs ko (R) (V) (SV) (B) (o2) (wy) ++ wG cI g f t n m fr to ++ wS cI cZ s g ib fi sk lu Mt Op h bk fin st lq)) m (fun e he ih => ?_) 0 (Nat.zero_le _)
  refine z_iload_n hX 3 dK_startOfWay_4 rfl rfl ?_
  refine z_aload_n hX 0 dK_startOfWay_5 rfl rfl ?_
  refine z_get hX 0 0 rfl rfl (zu inK) (by decide) (List.mem_cons_of_mem _ mw_151) rfl dK_startOfWay_6 ?_
  refine z_get hX 6 3 rfl rfl (zu inG) (by decide) (List.mem_cons_of_mem _ mw_56) rfl dK_startOfWay_9 ?_
  refine z_icmp_geN hX 45 (by omega) (by omega) dK_startOfWay_12 rfl (fun h12 => ?_) (fun h12 => ?_)
  · refine z_iload_n hX 2 dK_startOfWay_45 rfl rfl ?_
    refine z_iret hX rfl rfl rfl rfl dK_startOfWay_46 ?_
    have hem : e = m := by omega
    subst hem
    exact ⟨rfl, rfl⟩
  · refine z_aload_n hX 0 dK_startOfWay_15 rfl rfl ?_
    refine z_get hX 0 1 rfl rfl (zu inK) (by decide) (List.mem_cons_of_mem _ mw_152) rfl dK_startOfWay_16 ?_
    refine z_get hX 9 1 rfl rfl (zu inS) (by decide) (List.mem_cons_of_mem _ mw_75) rfl dK_startOfWay_19 ?_
    refine z_iload_n hX 3 dK_startOfWay_22 rfl rfl ?_
    refine z_ldB hX 10 1 _ rfl rfl rfl (by omega) (by decide) dK_startOfWay_23 ?_
    refine z_if_eqB hX 39 dK_startOfWay_24 rfl (fun h24 => ?_) (fun h24 => ?_)
    · have hs2 : sw_last (zps bk SV w) (e + 1) = sw_last (zps bk SV w) e := if_neg (fun hc => by simp [zps, h24] at hc)
      refine z_iinc hX 3 dK_startOfWay_39 rfl (zi_1 _) (by decide) ?_
      refine z_goto hX 4 dK_startOfWay_42 rfl ?_
      have hz := ih (by omega)
      rw [hs2] at hz
      exact hz
    · have hsve := hsv e (by omega) h24
      refine z_aload_n hX 0 dK_startOfWay_27 rfl rfl ?_
      refine z_get hX 0 5 rfl rfl (zu inK) (by decide) (List.mem_cons_of_mem _ mw_156) rfl dK_startOfWay_28 ?_
      refine z_iload_n hX 3 dK_startOfWay_31 rfl rfl ?_
      refine z_ldN hX 3 0 _ rfl rfl rfl (by omega) (by decide) dK_startOfWay_32 ?_
      refine z_iload_n hX 1 dK_startOfWay_33 rfl rfl ?_
      refine z_icmp_gtN hX 39 (by omega) (by omega) dK_startOfWay_34 rfl (fun h34 => ?_) (fun h34 => ?_)
      · have hs2 : sw_last (zps bk SV w) (e + 1) = sw_last (zps bk SV w) e := if_neg (fun hc => by simp [zps, h24] at hc; omega)
        refine z_iinc hX 3 dK_startOfWay_39 rfl (zi_1 _) (by decide) ?_
        refine z_goto hX 4 dK_startOfWay_42 rfl ?_
        have hz := ih (by omega)
        rw [hs2] at hz
        exact hz
      · have hs2 : sw_last (zps bk SV w) (e + 1) = e + 1 := if_pos (by simp [zps, h24]; omega)
        refine z_iload_n hX 3 dK_startOfWay_37 rfl rfl ?_
        refine z_istore_n hX 2 dK_startOfWay_38 rfl (by decide) ?_
        refine z_iinc hX 3 dK_startOfWay_39 rfl (zi_1 _) (by decide) ?_
        refine z_goto hX 4 dK_startOfWay_42 rfl ?_
        have hz := ih (by omega)
        rw [hs2] at hz
        exact hz

set_option maxHeartbeats 1000000 in
set_option maxRecDepth 100000 in
theorem kK_linkFrom (l : Launch) (D : va_G) (cI cZ : ClassId) (lk g s kt rw vl sv bs ko : Nat) (R V SV : Nat → Nat) (B : Nat → Int) (o2 : Nat → Nat) (wy : Nat) (f t n m : Nat) (fr to : Nat → Nat) (ib fi sk lu : Nat) (Mt Op : Nat → Bool) (h : Nat) (bk : Nat → Bool) (fin st lq : Nat → Nat) (b r : Nat) (hb : b < 12) (hr : r < 2147483648) (hv : ∀ e, e < m → V e < 2147483648) (hn : 2 ≤ n ∧ n ≤ 12) (hm : m ≤ 24) (hok : ∀ e, e < m → fr e < n ∧ to e < n) : zM l yK_linkFrom wK_linkFrom rK_linkFrom D zCl (zTy cI cZ) zNW 0 0 [.ref lk, .int (nI b), .int (nI r)] (wK cI lk g s kt rw vl sv bs ko (R) (V) (SV) (B) (o2) (wy) ++ wG cI g f t n m fr to ++ wS cI cZ s g ib fi sk lu Mt Op h bk fin st lq) (fun v wn => v = some (.int (zL (sw_last (zpl fr V b r) m))) ∧ wn = wK cI lk g s kt rw vl sv bs ko (R) (V) (SV) (B) (o2) (wy) ++ wG cI g f t n m fr to ++ wS cI cZ s g ib fi sk lu Mt Op h bk fin st lq) := by
  refine z_met2 cK_linkFrom 5 (some .int) rfl rfl (Nat.le_of_ble_eq_true rfl) rfl (fun Z hX => ?_)
  show Z 0 0 0 [some (.ref lk), some (.int (nI b)), some (.int (nI r)), none, none] [] (wK cI lk g s kt rw vl sv bs ko (R) (V) (SV) (B) (o2) (wy) ++ wG cI g f t n m fr to ++ wS cI cZ s g ib fi sk lu Mt Op h bk fin st lq)
  refine z_iconst hX (-1) dK_linkFrom_0 rfl ?_
  refine z_istore_n hX 3 dK_linkFrom_1 rfl (by decide) ?_
  refine z_iconst hX (nI 0) dK_linkFrom_2 rfl ?_
  refine z_istore hX 4 dK_linkFrom_3 (by decide) ?_
  refine zloop (P := fun e => Z 0 0 5 [some (.ref lk), some (.int (nI b)), some (.int (nI r)), some (.int (zL (sw_last (zpl fr V b r) e))), some (.int (nI e))] [] (wK cI lk g s kt rw vl sv bs ko (R) (V) (SV) (B) (o2) (wy) ++ wG cI g f t n m fr to ++ wS cI cZ s g ib fi sk lu Mt Op h bk fin st lq)) m (fun e he ih => ?_) 0 (Nat.zero_le _)
  refine z_iload hX 4 dK_linkFrom_5 rfl ?_
  refine z_aload_n hX 0 dK_linkFrom_7 rfl rfl ?_
  refine z_get hX 0 0 rfl rfl (zu inK) (by decide) (List.mem_cons_of_mem _ mw_151) rfl dK_linkFrom_8 ?_
  refine z_get hX 6 3 rfl rfl (zu inG) (by decide) (List.mem_cons_of_mem _ mw_56) rfl dK_linkFrom_11 ?_
  refine z_icmp_geN hX 51 (by omega) (by omega) dK_linkFrom_14 rfl (fun h14 => ?_) (fun h14 => ?_)
  · refine z_iload_n hX 3 dK_linkFrom_51 rfl rfl ?_
    refine z_iret hX rfl rfl rfl rfl dK_linkFrom_52 ?_
    have hem : e = m := by omega
    subst hem
    exact ⟨rfl, rfl⟩
  · have hoke := hok e (by omega)
    have hve := hv e (by omega)
    refine z_aload_n hX 0 dK_linkFrom_17 rfl rfl ?_
    refine z_get hX 0 0 rfl rfl (zu inK) (by decide) (List.mem_cons_of_mem _ mw_151) rfl dK_linkFrom_18 ?_
    refine z_get hX 6 1 rfl rfl (zu inG) (by decide) (List.mem_cons_of_mem _ mw_39) rfl dK_linkFrom_21 ?_
    refine z_iload hX 4 dK_linkFrom_24 rfl ?_
    refine z_ldN hX 7 0 _ rfl rfl rfl (by omega) (by decide) dK_linkFrom_26 ?_
    refine z_iload_n hX 1 dK_linkFrom_27 rfl rfl ?_
    refine z_icmp_neN hX 45 (by omega) (by omega) dK_linkFrom_28 rfl (fun h28 => ?_) (fun h28 => ?_)
    · have hs2 : sw_last (zpl fr V b r) (e + 1) = sw_last (zpl fr V b r) e := if_neg (fun hc => by simp [zpl, h28] at hc)
      refine z_iinc hX 4 dK_linkFrom_45 rfl (zi_1 _) (by decide) ?_
      refine z_goto hX 5 dK_linkFrom_48 rfl ?_
      have hz := ih (by omega)
      rw [hs2] at hz
      exact hz
    · refine z_aload_n hX 0 dK_linkFrom_31 rfl rfl ?_
      refine z_get hX 0 4 rfl rfl (zu inK) (by decide) (List.mem_cons_of_mem _ mw_155) rfl dK_linkFrom_32 ?_
      refine z_iload hX 4 dK_linkFrom_35 rfl ?_
      refine z_ldN hX 2 0 _ rfl rfl rfl (by omega) (by decide) dK_linkFrom_37 ?_
      refine z_iload_n hX 2 dK_linkFrom_38 rfl rfl ?_
      refine z_icmp_gtN hX 45 (by omega) (by omega) dK_linkFrom_39 rfl (fun h39 => ?_) (fun h39 => ?_)
      · have hs2 : sw_last (zpl fr V b r) (e + 1) = sw_last (zpl fr V b r) e := if_neg (fun hc => by simp [zpl, h28] at hc; omega)
        refine z_iinc hX 4 dK_linkFrom_45 rfl (zi_1 _) (by decide) ?_
        refine z_goto hX 5 dK_linkFrom_48 rfl ?_
        have hz := ih (by omega)
        rw [hs2] at hz
        exact hz
      · have hs2 : sw_last (zpl fr V b r) (e + 1) = e + 1 := if_pos (by simp [zpl, h28]; omega)
        refine z_iload hX 4 dK_linkFrom_42 rfl ?_
        refine z_istore_n hX 3 dK_linkFrom_44 rfl (by decide) ?_
        refine z_iinc hX 4 dK_linkFrom_45 rfl (zi_1 _) (by decide) ?_
        refine z_goto hX 5 dK_linkFrom_48 rfl ?_
        have hz := ih (by omega)
        rw [hs2] at hz
        exact hz
end
