-- ===== PART A: goes FIRST, ahead of the names: the tables' words, and 'selects' of the private methods out of them =====
/-- a private method of a class that the tables say can be made, by its rows of tables_1 -/
def lw_okq (q : MethodName × Nat) : Prop := (q.1.cls ≠ "java/lang/invoke/MethodHandle" ∧ q.1.cls ≠ "java/lang/invoke/VarHandle") ∧ Cond.instantiable q.1.cls q.2 ∈ tables_1 ∧ Cond.privateMethod q.1 ∈ tables_1 ∧ Cond.instanceMethod q.1 ∈ tables_1
theorem lw_p0 : lw_okq (⟨"AsleepPass$Tape", "addBytes", "(J)Z"⟩, 2) := ⟨⟨by decide +kernel, by decide +kernel⟩, List.mem_of_getElem? (i := 35) (by decide +kernel), List.mem_of_getElem? (i := 350) (by decide +kernel), List.mem_of_getElem? (i := 351) (by decide +kernel)⟩
theorem lw_p1 : lw_okq (⟨"AsleepPass$Reader", "readAll", "()V"⟩, 12) := ⟨⟨by decide +kernel, by decide +kernel⟩, List.mem_of_getElem? (i := 29) (by decide +kernel), List.mem_of_getElem? (i := 363) (by decide +kernel), List.mem_of_getElem? (i := 364) (by decide +kernel)⟩
theorem lw_p2 : lw_okq (⟨"AsleepPass$Reader", "begin", "()V"⟩, 12) := ⟨⟨by decide +kernel, by decide +kernel⟩, List.mem_of_getElem? (i := 29) (by decide +kernel), List.mem_of_getElem? (i := 367) (by decide +kernel), List.mem_of_getElem? (i := 368) (by decide +kernel)⟩
theorem lw_p3 : lw_okq (⟨"AsleepPass$Way", "clear", "()V"⟩, 9) := ⟨⟨by decide +kernel, by decide +kernel⟩, List.mem_of_getElem? (i := 51) (by decide +kernel), List.mem_of_getElem? (i := 371) (by decide +kernel), List.mem_of_getElem? (i := 372) (by decide +kernel)⟩
theorem lw_p4 : lw_okq (⟨"AsleepPass$Reader", "nextToken", "()Z"⟩, 12) := ⟨⟨by decide +kernel, by decide +kernel⟩, List.mem_of_getElem? (i := 29) (by decide +kernel), List.mem_of_getElem? (i := 375) (by decide +kernel), List.mem_of_getElem? (i := 376) (by decide +kernel)⟩
theorem lw_p5 : lw_okq (⟨"AsleepPass$Tape", "pastAll", "(ICC)I"⟩, 2) := ⟨⟨by decide +kernel, by decide +kernel⟩, List.mem_of_getElem? (i := 35) (by decide +kernel), List.mem_of_getElem? (i := 379) (by decide +kernel), List.mem_of_getElem? (i := 380) (by decide +kernel)⟩
theorem lw_p6 : lw_okq (⟨"AsleepPass$Tape", "byteAt", "(I)I"⟩, 2) := ⟨⟨by decide +kernel, by decide +kernel⟩, List.mem_of_getElem? (i := 35) (by decide +kernel), List.mem_of_getElem? (i := 383) (by decide +kernel), List.mem_of_getElem? (i := 384) (by decide +kernel)⟩
theorem lw_p7 : lw_okq (⟨"AsleepPass$Reader", "refuse", "(II)Z"⟩, 12) := ⟨⟨by decide +kernel, by decide +kernel⟩, List.mem_of_getElem? (i := 29) (by decide +kernel), List.mem_of_getElem? (i := 387) (by decide +kernel), List.mem_of_getElem? (i := 388) (by decide +kernel)⟩
theorem lw_p8 : lw_okq (⟨"AsleepPass$Reader", "readLine", "()Z"⟩, 12) := ⟨⟨by decide +kernel, by decide +kernel⟩, List.mem_of_getElem? (i := 29) (by decide +kernel), List.mem_of_getElem? (i := 391) (by decide +kernel), List.mem_of_getElem? (i := 392) (by decide +kernel)⟩
theorem lw_p9 : lw_okq (⟨"AsleepPass$Reader", "isName", "(Ljava/lang/String;)Z"⟩, 12) := ⟨⟨by decide +kernel, by decide +kernel⟩, List.mem_of_getElem? (i := 29) (by decide +kernel), List.mem_of_getElem? (i := 396) (by decide +kernel), List.mem_of_getElem? (i := 397) (by decide +kernel)⟩
theorem lw_p10 : lw_okq (⟨"AsleepPass$Tape", "says", "(IILjava/lang/String;)Z"⟩, 2) := ⟨⟨by decide +kernel, by decide +kernel⟩, List.mem_of_getElem? (i := 35) (by decide +kernel), List.mem_of_getElem? (i := 400) (by decide +kernel), List.mem_of_getElem? (i := 401) (by decide +kernel)⟩
theorem lw_p11 : lw_okq (⟨"AsleepPass$Reader", "readStart", "()Z"⟩, 12) := ⟨⟨by decide +kernel, by decide +kernel⟩, List.mem_of_getElem? (i := 29) (by decide +kernel), List.mem_of_getElem? (i := 452) (by decide +kernel), List.mem_of_getElem? (i := 453) (by decide +kernel)⟩
theorem lw_p12 : lw_okq (⟨"AsleepPass$Reader", "nextNumber", "(II)Z"⟩, 12) := ⟨⟨by decide +kernel, by decide +kernel⟩, List.mem_of_getElem? (i := 29) (by decide +kernel), List.mem_of_getElem? (i := 456) (by decide +kernel), List.mem_of_getElem? (i := 457) (by decide +kernel)⟩
theorem lw_p13 : lw_okq (⟨"AsleepPass$Reader", "value", "()I"⟩, 12) := ⟨⟨by decide +kernel, by decide +kernel⟩, List.mem_of_getElem? (i := 29) (by decide +kernel), List.mem_of_getElem? (i := 460) (by decide +kernel), List.mem_of_getElem? (i := 461) (by decide +kernel)⟩
theorem lw_p14 : lw_okq (⟨"AsleepPass$Reader", "nextStop", "()Z"⟩, 12) := ⟨⟨by decide +kernel, by decide +kernel⟩, List.mem_of_getElem? (i := 29) (by decide +kernel), List.mem_of_getElem? (i := 464) (by decide +kernel), List.mem_of_getElem? (i := 465) (by decide +kernel)⟩
theorem lw_p15 : lw_okq (⟨"AsleepPass$Reader", "readStretch", "()Z"⟩, 12) := ⟨⟨by decide +kernel, by decide +kernel⟩, List.mem_of_getElem? (i := 29) (by decide +kernel), List.mem_of_getElem? (i := 469) (by decide +kernel), List.mem_of_getElem? (i := 470) (by decide +kernel)⟩
def lw_privs_1 : List (MethodName × Nat) := [(⟨"AsleepPass$Tape", "addBytes", "(J)Z"⟩, 2), (⟨"AsleepPass$Reader", "readAll", "()V"⟩, 12), (⟨"AsleepPass$Reader", "begin", "()V"⟩, 12), (⟨"AsleepPass$Way", "clear", "()V"⟩, 9), (⟨"AsleepPass$Reader", "nextToken", "()Z"⟩, 12), (⟨"AsleepPass$Tape", "pastAll", "(ICC)I"⟩, 2), (⟨"AsleepPass$Tape", "byteAt", "(I)I"⟩, 2), (⟨"AsleepPass$Reader", "refuse", "(II)Z"⟩, 12), (⟨"AsleepPass$Reader", "readLine", "()Z"⟩, 12), (⟨"AsleepPass$Reader", "isName", "(Ljava/lang/String;)Z"⟩, 12), (⟨"AsleepPass$Tape", "says", "(IILjava/lang/String;)Z"⟩, 2), (⟨"AsleepPass$Reader", "readStart", "()Z"⟩, 12), (⟨"AsleepPass$Reader", "nextNumber", "(II)Z"⟩, 12), (⟨"AsleepPass$Reader", "value", "()I"⟩, 12), (⟨"AsleepPass$Reader", "nextStop", "()Z"⟩, 12), (⟨"AsleepPass$Reader", "readStretch", "()Z"⟩, 12)]
theorem lw_r1 : ∀ q ∈ lw_privs_1, lw_okq q := List.forall_mem_cons.mpr ⟨lw_p0, List.forall_mem_cons.mpr ⟨lw_p1, List.forall_mem_cons.mpr ⟨lw_p2, List.forall_mem_cons.mpr ⟨lw_p3, List.forall_mem_cons.mpr ⟨lw_p4, List.forall_mem_cons.mpr ⟨lw_p5, List.forall_mem_cons.mpr ⟨lw_p6, List.forall_mem_cons.mpr ⟨lw_p7, List.forall_mem_cons.mpr ⟨lw_p8, List.forall_mem_cons.mpr ⟨lw_p9, List.forall_mem_cons.mpr ⟨lw_p10, List.forall_mem_cons.mpr ⟨lw_p11, List.forall_mem_cons.mpr ⟨lw_p12, List.forall_mem_cons.mpr ⟨lw_p13, List.forall_mem_cons.mpr ⟨lw_p14, List.forall_mem_cons.mpr ⟨lw_p15, fun _ h => absurd h List.not_mem_nil⟩⟩⟩⟩⟩⟩⟩⟩⟩⟩⟩⟩⟩⟩⟩⟩
theorem lw_p16 : lw_okq (⟨"AsleepPass$Way", "addStretch", "(II)V"⟩, 9) := ⟨⟨by decide +kernel, by decide +kernel⟩, List.mem_of_getElem? (i := 51) (by decide +kernel), List.mem_of_getElem? (i := 473) (by decide +kernel), List.mem_of_getElem? (i := 474) (by decide +kernel)⟩
theorem lw_p17 : lw_okq (⟨"AsleepPass$Reader", "readBearer", "()Z"⟩, 12) := ⟨⟨by decide +kernel, by decide +kernel⟩, List.mem_of_getElem? (i := 29) (by decide +kernel), List.mem_of_getElem? (i := 478) (by decide +kernel), List.mem_of_getElem? (i := 479) (by decide +kernel)⟩
theorem lw_p18 : lw_okq (⟨"AsleepPass$Reader", "kind", "()I"⟩, 12) := ⟨⟨by decide +kernel, by decide +kernel⟩, List.mem_of_getElem? (i := 29) (by decide +kernel), List.mem_of_getElem? (i := 482) (by decide +kernel), List.mem_of_getElem? (i := 483) (by decide +kernel)⟩
theorem lw_p19 : lw_okq (⟨"AsleepPass$Way", "addBearer", "(III)V"⟩, 9) := ⟨⟨by decide +kernel, by decide +kernel⟩, List.mem_of_getElem? (i := 51) (by decide +kernel), List.mem_of_getElem? (i := 492) (by decide +kernel), List.mem_of_getElem? (i := 493) (by decide +kernel)⟩
theorem lw_p20 : lw_okq (⟨"AsleepPass$Reader", "readCarry", "()Z"⟩, 12) := ⟨⟨by decide +kernel, by decide +kernel⟩, List.mem_of_getElem? (i := 29) (by decide +kernel), List.mem_of_getElem? (i := 497) (by decide +kernel), List.mem_of_getElem? (i := 498) (by decide +kernel)⟩
theorem lw_p21 : lw_okq (⟨"AsleepPass$Reader", "lookBehindAll", "()V"⟩, 12) := ⟨⟨by decide +kernel, by decide +kernel⟩, List.mem_of_getElem? (i := 29) (by decide +kernel), List.mem_of_getElem? (i := 504) (by decide +kernel), List.mem_of_getElem? (i := 505) (by decide +kernel)⟩
theorem lw_p22 : lw_okq (⟨"AsleepPass$Way", "copyOf", "(LAsleepPass$Way;)V"⟩, 9) := ⟨⟨by decide +kernel, by decide +kernel⟩, List.mem_of_getElem? (i := 51) (by decide +kernel), List.mem_of_getElem? (i := 508) (by decide +kernel), List.mem_of_getElem? (i := 509) (by decide +kernel)⟩
theorem lw_p23 : lw_okq (⟨"AsleepPass$Way", "hasStretch", "(I)Z"⟩, 9) := ⟨⟨by decide +kernel, by decide +kernel⟩, List.mem_of_getElem? (i := 51) (by decide +kernel), List.mem_of_getElem? (i := 528) (by decide +kernel), List.mem_of_getElem? (i := 529) (by decide +kernel)⟩
theorem lw_p24 : lw_okq (⟨"AsleepPass$Way", "hasBearer", "(I)Z"⟩, 9) := ⟨⟨by decide +kernel, by decide +kernel⟩, List.mem_of_getElem? (i := 51) (by decide +kernel), List.mem_of_getElem? (i := 536) (by decide +kernel), List.mem_of_getElem? (i := 537) (by decide +kernel)⟩
theorem lw_p25 : lw_okq (⟨"AsleepPass$Way", "canHand", "(III)Z"⟩, 9) := ⟨⟨by decide +kernel, by decide +kernel⟩, List.mem_of_getElem? (i := 51) (by decide +kernel), List.mem_of_getElem? (i := 571) (by decide +kernel), List.mem_of_getElem? (i := 572) (by decide +kernel)⟩
theorem lw_p26 : lw_okq (⟨"AsleepPass$Way", "harmBy", "(III)I"⟩, 9) := ⟨⟨by decide +kernel, by decide +kernel⟩, List.mem_of_getElem? (i := 51) (by decide +kernel), List.mem_of_getElem? (i := 577) (by decide +kernel), List.mem_of_getElem? (i := 578) (by decide +kernel)⟩
theorem lw_p27 : lw_okq (⟨"AsleepPass$Way", "noiseBy", "(II)I"⟩, 9) := ⟨⟨by decide +kernel, by decide +kernel⟩, List.mem_of_getElem? (i := 51) (by decide +kernel), List.mem_of_getElem? (i := 582) (by decide +kernel), List.mem_of_getElem? (i := 583) (by decide +kernel)⟩
theorem lw_p28 : lw_okq (⟨"AsleepPass$Way", "coldBy", "(II)I"⟩, 9) := ⟨⟨by decide +kernel, by decide +kernel⟩, List.mem_of_getElem? (i := 51) (by decide +kernel), List.mem_of_getElem? (i := 587) (by decide +kernel), List.mem_of_getElem? (i := 588) (by decide +kernel)⟩
theorem lw_p29 : lw_okq (⟨"AsleepPass$Way", "joltBy", "(II)I"⟩, 9) := ⟨⟨by decide +kernel, by decide +kernel⟩, List.mem_of_getElem? (i := 51) (by decide +kernel), List.mem_of_getElem? (i := 591) (by decide +kernel), List.mem_of_getElem? (i := 592) (by decide +kernel)⟩
theorem lw_p30 : lw_okq (⟨"AsleepPass$Odds", "waking", "(LAsleepPass$Way;II)J"⟩, 3) := ⟨⟨by decide +kernel, by decide +kernel⟩, List.mem_of_getElem? (i := 151) (by decide +kernel), List.mem_of_getElem? (i := 609) (by decide +kernel), List.mem_of_getElem? (i := 610) (by decide +kernel)⟩
theorem lw_p31 : lw_okq (⟨"AsleepPass$Odds", "begin", "(I)V"⟩, 3) := ⟨⟨by decide +kernel, by decide +kernel⟩, List.mem_of_getElem? (i := 151) (by decide +kernel), List.mem_of_getElem? (i := 613) (by decide +kernel), List.mem_of_getElem? (i := 614) (by decide +kernel)⟩
def lw_privs_2 : List (MethodName × Nat) := [(⟨"AsleepPass$Way", "addStretch", "(II)V"⟩, 9), (⟨"AsleepPass$Reader", "readBearer", "()Z"⟩, 12), (⟨"AsleepPass$Reader", "kind", "()I"⟩, 12), (⟨"AsleepPass$Way", "addBearer", "(III)V"⟩, 9), (⟨"AsleepPass$Reader", "readCarry", "()Z"⟩, 12), (⟨"AsleepPass$Reader", "lookBehindAll", "()V"⟩, 12), (⟨"AsleepPass$Way", "copyOf", "(LAsleepPass$Way;)V"⟩, 9), (⟨"AsleepPass$Way", "hasStretch", "(I)Z"⟩, 9), (⟨"AsleepPass$Way", "hasBearer", "(I)Z"⟩, 9), (⟨"AsleepPass$Way", "canHand", "(III)Z"⟩, 9), (⟨"AsleepPass$Way", "harmBy", "(III)I"⟩, 9), (⟨"AsleepPass$Way", "noiseBy", "(II)I"⟩, 9), (⟨"AsleepPass$Way", "coldBy", "(II)I"⟩, 9), (⟨"AsleepPass$Way", "joltBy", "(II)I"⟩, 9), (⟨"AsleepPass$Odds", "waking", "(LAsleepPass$Way;II)J"⟩, 3), (⟨"AsleepPass$Odds", "begin", "(I)V"⟩, 3)]
theorem lw_r2 : ∀ q ∈ lw_privs_2, lw_okq q := List.forall_mem_cons.mpr ⟨lw_p16, List.forall_mem_cons.mpr ⟨lw_p17, List.forall_mem_cons.mpr ⟨lw_p18, List.forall_mem_cons.mpr ⟨lw_p19, List.forall_mem_cons.mpr ⟨lw_p20, List.forall_mem_cons.mpr ⟨lw_p21, List.forall_mem_cons.mpr ⟨lw_p22, List.forall_mem_cons.mpr ⟨lw_p23, List.forall_mem_cons.mpr ⟨lw_p24, List.forall_mem_cons.mpr ⟨lw_p25, List.forall_mem_cons.mpr ⟨lw_p26, List.forall_mem_cons.mpr ⟨lw_p27, List.forall_mem_cons.mpr ⟨lw_p28, List.forall_mem_cons.mpr ⟨lw_p29, List.forall_mem_cons.mpr ⟨lw_p30, List.forall_mem_cons.mpr ⟨lw_p31, fun _ h => absurd h List.not_mem_nil⟩⟩⟩⟩⟩⟩⟩⟩⟩⟩⟩⟩⟩⟩⟩⟩
theorem lw_p32 : lw_okq (⟨"AsleepPass$Odds", "deepen", "()V"⟩, 3) := ⟨⟨by decide +kernel, by decide +kernel⟩, List.mem_of_getElem? (i := 151) (by decide +kernel), List.mem_of_getElem? (i := 617) (by decide +kernel), List.mem_of_getElem? (i := 618) (by decide +kernel)⟩
theorem lw_p33 : lw_okq (⟨"AsleepPass$Odds", "takeAhead", "()V"⟩, 3) := ⟨⟨by decide +kernel, by decide +kernel⟩, List.mem_of_getElem? (i := 151) (by decide +kernel), List.mem_of_getElem? (i := 621) (by decide +kernel), List.mem_of_getElem? (i := 622) (by decide +kernel)⟩
theorem lw_p34 : lw_okq (⟨"AsleepPass$Way", "harmInOrder", "(I)I"⟩, 9) := ⟨⟨by decide +kernel, by decide +kernel⟩, List.mem_of_getElem? (i := 51) (by decide +kernel), List.mem_of_getElem? (i := 626) (by decide +kernel), List.mem_of_getElem? (i := 627) (by decide +kernel)⟩
theorem lw_p35 : lw_okq (⟨"AsleepPass$Odds", "pass", "(I)V"⟩, 3) := ⟨⟨by decide +kernel, by decide +kernel⟩, List.mem_of_getElem? (i := 151) (by decide +kernel), List.mem_of_getElem? (i := 631) (by decide +kernel), List.mem_of_getElem? (i := 632) (by decide +kernel)⟩
theorem lw_p36 : lw_okq (⟨"AsleepPass$Choice", "plan", "(LAsleepPass$Way;I)V"⟩, 3) := ⟨⟨by decide +kernel, by decide +kernel⟩, List.mem_of_getElem? (i := 171) (by decide +kernel), List.mem_of_getElem? (i := 658) (by decide +kernel), List.mem_of_getElem? (i := 659) (by decide +kernel)⟩
theorem lw_p37 : lw_okq (⟨"AsleepPass$Choice", "chooseFrom", "(LAsleepPass$Way;III)V"⟩, 3) := ⟨⟨by decide +kernel, by decide +kernel⟩, List.mem_of_getElem? (i := 171) (by decide +kernel), List.mem_of_getElem? (i := 663) (by decide +kernel), List.mem_of_getElem? (i := 664) (by decide +kernel)⟩
theorem lw_p38 : lw_okq (⟨"AsleepPass$Choice", "weigh", "(IIII)V"⟩, 3) := ⟨⟨by decide +kernel, by decide +kernel⟩, List.mem_of_getElem? (i := 171) (by decide +kernel), List.mem_of_getElem? (i := 672) (by decide +kernel), List.mem_of_getElem? (i := 673) (by decide +kernel)⟩
theorem lw_p39 : lw_okq (⟨"AsleepPass$Choice", "wakingAtFirst", "(LAsleepPass$Way;)J"⟩, 3) := ⟨⟨by decide +kernel, by decide +kernel⟩, List.mem_of_getElem? (i := 171) (by decide +kernel), List.mem_of_getElem? (i := 677) (by decide +kernel), List.mem_of_getElem? (i := 678) (by decide +kernel)⟩
theorem lw_p40 : lw_okq (⟨"AsleepPass", "stopNoises", "(I)V"⟩, 14) := ⟨⟨by decide +kernel, by decide +kernel⟩, List.mem_of_getElem? (i := 21) (by decide +kernel), List.mem_of_getElem? (i := 704) (by decide +kernel), List.mem_of_getElem? (i := 705) (by decide +kernel)⟩
theorem lw_p41 : lw_okq (⟨"AsleepPass$Way", "exchange", "(II)V"⟩, 9) := ⟨⟨by decide +kernel, by decide +kernel⟩, List.mem_of_getElem? (i := 51) (by decide +kernel), List.mem_of_getElem? (i := 716) (by decide +kernel), List.mem_of_getElem? (i := 717) (by decide +kernel)⟩
theorem lw_p42 : lw_okq (⟨"AsleepPass$Crossing", "cross", "(LAsleepPass$Way;I)V"⟩, 3) := ⟨⟨by decide +kernel, by decide +kernel⟩, List.mem_of_getElem? (i := 193) (by decide +kernel), List.mem_of_getElem? (i := 724) (by decide +kernel), List.mem_of_getElem? (i := 725) (by decide +kernel)⟩
theorem lw_p43 : lw_okq (⟨"AsleepPass$Learnt", "add", "(IIII)Z"⟩, 5) := ⟨⟨by decide +kernel, by decide +kernel⟩, List.mem_of_getElem? (i := 212) (by decide +kernel), List.mem_of_getElem? (i := 735) (by decide +kernel), List.mem_of_getElem? (i := 736) (by decide +kernel)⟩
theorem lw_p44 : lw_okq (⟨"AsleepPass$Learnt", "isSo", "(LAsleepPass$Way;)Z"⟩, 5) := ⟨⟨by decide +kernel, by decide +kernel⟩, List.mem_of_getElem? (i := 212) (by decide +kernel), List.mem_of_getElem? (i := 747) (by decide +kernel), List.mem_of_getElem? (i := 748) (by decide +kernel)⟩
theorem lw_p45 : lw_okq (⟨"AsleepPass$Marked", "add", "(II)Z"⟩, 3) := ⟨⟨by decide +kernel, by decide +kernel⟩, List.mem_of_getElem? (i := 235) (by decide +kernel), List.mem_of_getElem? (i := 756) (by decide +kernel), List.mem_of_getElem? (i := 757) (by decide +kernel)⟩
theorem lw_p46 : lw_okq (⟨"AsleepPass$Trails", "explore", "(LAsleepPass$Way;LAsleepPass$Marked;)V"⟩, 3) := ⟨⟨by decide +kernel, by decide +kernel⟩, List.mem_of_getElem? (i := 252) (by decide +kernel), List.mem_of_getElem? (i := 768) (by decide +kernel), List.mem_of_getElem? (i := 769) (by decide +kernel)⟩
theorem lw_p47 : lw_okq (⟨"AsleepPass$Trails", "leadInto", "(II)V"⟩, 3) := ⟨⟨by decide +kernel, by decide +kernel⟩, List.mem_of_getElem? (i := 252) (by decide +kernel), List.mem_of_getElem? (i := 773) (by decide +kernel), List.mem_of_getElem? (i := 774) (by decide +kernel)⟩
def lw_privs_3 : List (MethodName × Nat) := [(⟨"AsleepPass$Odds", "deepen", "()V"⟩, 3), (⟨"AsleepPass$Odds", "takeAhead", "()V"⟩, 3), (⟨"AsleepPass$Way", "harmInOrder", "(I)I"⟩, 9), (⟨"AsleepPass$Odds", "pass", "(I)V"⟩, 3), (⟨"AsleepPass$Choice", "plan", "(LAsleepPass$Way;I)V"⟩, 3), (⟨"AsleepPass$Choice", "chooseFrom", "(LAsleepPass$Way;III)V"⟩, 3), (⟨"AsleepPass$Choice", "weigh", "(IIII)V"⟩, 3), (⟨"AsleepPass$Choice", "wakingAtFirst", "(LAsleepPass$Way;)J"⟩, 3), (⟨"AsleepPass", "stopNoises", "(I)V"⟩, 14), (⟨"AsleepPass$Way", "exchange", "(II)V"⟩, 9), (⟨"AsleepPass$Crossing", "cross", "(LAsleepPass$Way;I)V"⟩, 3), (⟨"AsleepPass$Learnt", "add", "(IIII)Z"⟩, 5), (⟨"AsleepPass$Learnt", "isSo", "(LAsleepPass$Way;)Z"⟩, 5), (⟨"AsleepPass$Marked", "add", "(II)Z"⟩, 3), (⟨"AsleepPass$Trails", "explore", "(LAsleepPass$Way;LAsleepPass$Marked;)V"⟩, 3), (⟨"AsleepPass$Trails", "leadInto", "(II)V"⟩, 3)]
theorem lw_r3 : ∀ q ∈ lw_privs_3, lw_okq q := List.forall_mem_cons.mpr ⟨lw_p32, List.forall_mem_cons.mpr ⟨lw_p33, List.forall_mem_cons.mpr ⟨lw_p34, List.forall_mem_cons.mpr ⟨lw_p35, List.forall_mem_cons.mpr ⟨lw_p36, List.forall_mem_cons.mpr ⟨lw_p37, List.forall_mem_cons.mpr ⟨lw_p38, List.forall_mem_cons.mpr ⟨lw_p39, List.forall_mem_cons.mpr ⟨lw_p40, List.forall_mem_cons.mpr ⟨lw_p41, List.forall_mem_cons.mpr ⟨lw_p42, List.forall_mem_cons.mpr ⟨lw_p43, List.forall_mem_cons.mpr ⟨lw_p44, List.forall_mem_cons.mpr ⟨lw_p45, List.forall_mem_cons.mpr ⟨lw_p46, List.forall_mem_cons.mpr ⟨lw_p47, fun _ h => absurd h List.not_mem_nil⟩⟩⟩⟩⟩⟩⟩⟩⟩⟩⟩⟩⟩⟩⟩⟩
theorem lw_p48 : lw_okq (⟨"AsleepPass$Marked", "allows", "(II)Z"⟩, 3) := ⟨⟨by decide +kernel, by decide +kernel⟩, List.mem_of_getElem? (i := 235) (by decide +kernel), List.mem_of_getElem? (i := 781) (by decide +kernel), List.mem_of_getElem? (i := 782) (by decide +kernel)⟩
theorem lw_p49 : lw_okq (⟨"AsleepPass$Trails", "leadOnward", "(II)V"⟩, 3) := ⟨⟨by decide +kernel, by decide +kernel⟩, List.mem_of_getElem? (i := 252) (by decide +kernel), List.mem_of_getElem? (i := 785) (by decide +kernel), List.mem_of_getElem? (i := 786) (by decide +kernel)⟩
theorem lw_p50 : lw_okq (⟨"AsleepPass$Trails", "canBeBehind", "(II)Z"⟩, 3) := ⟨⟨by decide +kernel, by decide +kernel⟩, List.mem_of_getElem? (i := 252) (by decide +kernel), List.mem_of_getElem? (i := 793) (by decide +kernel), List.mem_of_getElem? (i := 794) (by decide +kernel)⟩
theorem lw_p51 : lw_okq (⟨"AsleepPass$Trails", "falling", "(LAsleepPass$Way;I)I"⟩, 3) := ⟨⟨by decide +kernel, by decide +kernel⟩, List.mem_of_getElem? (i := 252) (by decide +kernel), List.mem_of_getElem? (i := 801) (by decide +kernel), List.mem_of_getElem? (i := 802) (by decide +kernel)⟩
theorem lw_p52 : lw_okq (⟨"AsleepPass$Trails", "rising", "(LAsleepPass$Way;I)I"⟩, 3) := ⟨⟨by decide +kernel, by decide +kernel⟩, List.mem_of_getElem? (i := 252) (by decide +kernel), List.mem_of_getElem? (i := 805) (by decide +kernel), List.mem_of_getElem? (i := 806) (by decide +kernel)⟩
theorem lw_p53 : lw_okq (⟨"AsleepPass$Sheets", "renew", "(III)V"⟩, 7) := ⟨⟨by decide +kernel, by decide +kernel⟩, List.mem_of_getElem? (i := 270) (by decide +kernel), List.mem_of_getElem? (i := 830) (by decide +kernel), List.mem_of_getElem? (i := 831) (by decide +kernel)⟩
theorem lw_p54 : lw_okq (⟨"AsleepPass$Sheets", "faultAt", "(IJ)I"⟩, 7) := ⟨⟨by decide +kernel, by decide +kernel⟩, List.mem_of_getElem? (i := 270) (by decide +kernel), List.mem_of_getElem? (i := 839) (by decide +kernel), List.mem_of_getElem? (i := 840) (by decide +kernel)⟩
theorem lw_p55 : lw_okq (⟨"AsleepPass$Sheets", "fill", "(III)V"⟩, 7) := ⟨⟨by decide +kernel, by decide +kernel⟩, List.mem_of_getElem? (i := 270) (by decide +kernel), List.mem_of_getElem? (i := 843) (by decide +kernel), List.mem_of_getElem? (i := 844) (by decide +kernel)⟩
theorem lw_p56 : lw_okq (⟨"AsleepPass$Sheets", "takePairs", "(IIII)V"⟩, 7) := ⟨⟨by decide +kernel, by decide +kernel⟩, List.mem_of_getElem? (i := 270) (by decide +kernel), List.mem_of_getElem? (i := 852) (by decide +kernel), List.mem_of_getElem? (i := 853) (by decide +kernel)⟩
theorem lw_p57 : lw_okq (⟨"AsleepPass$Sheets", "sizeOf", "(I)I"⟩, 7) := ⟨⟨by decide +kernel, by decide +kernel⟩, List.mem_of_getElem? (i := 270) (by decide +kernel), List.mem_of_getElem? (i := 865) (by decide +kernel), List.mem_of_getElem? (i := 866) (by decide +kernel)⟩
theorem lw_p58 : lw_okq (⟨"AsleepPass$Way", "handOvers", "()I"⟩, 9) := ⟨⟨by decide +kernel, by decide +kernel⟩, List.mem_of_getElem? (i := 51) (by decide +kernel), List.mem_of_getElem? (i := 869) (by decide +kernel), List.mem_of_getElem? (i := 870) (by decide +kernel)⟩
theorem lw_p59 : lw_okq (⟨"AsleepPassModel", "goesOn", "()V"⟩, 35) := ⟨⟨by decide +kernel, by decide +kernel⟩, List.mem_of_getElem? (i := 873) (by decide +kernel), List.mem_of_getElem? (i := 1000) (by decide +kernel), List.mem_of_getElem? (i := 1001) (by decide +kernel)⟩
theorem lw_p60 : lw_okq (⟨"AsleepPassModel", "byteAt", "(I)I"⟩, 35) := ⟨⟨by decide +kernel, by decide +kernel⟩, List.mem_of_getElem? (i := 873) (by decide +kernel), List.mem_of_getElem? (i := 1004) (by decide +kernel), List.mem_of_getElem? (i := 1005) (by decide +kernel)⟩
theorem lw_p61 : lw_okq (⟨"AsleepPassModel", "fails", "(I)V"⟩, 35) := ⟨⟨by decide +kernel, by decide +kernel⟩, List.mem_of_getElem? (i := 873) (by decide +kernel), List.mem_of_getElem? (i := 1012) (by decide +kernel), List.mem_of_getElem? (i := 1013) (by decide +kernel)⟩
theorem lw_p62 : lw_okq (⟨"AsleepPassModel", "readLine", "()V"⟩, 35) := ⟨⟨by decide +kernel, by decide +kernel⟩, List.mem_of_getElem? (i := 873) (by decide +kernel), List.mem_of_getElem? (i := 1016) (by decide +kernel), List.mem_of_getElem? (i := 1017) (by decide +kernel)⟩
theorem lw_p63 : lw_okq (⟨"AsleepPassModel", "nameHere", "()I"⟩, 35) := ⟨⟨by decide +kernel, by decide +kernel⟩, List.mem_of_getElem? (i := 873) (by decide +kernel), List.mem_of_getElem? (i := 1020) (by decide +kernel), List.mem_of_getElem? (i := 1021) (by decide +kernel)⟩
def lw_privs_4 : List (MethodName × Nat) := [(⟨"AsleepPass$Marked", "allows", "(II)Z"⟩, 3), (⟨"AsleepPass$Trails", "leadOnward", "(II)V"⟩, 3), (⟨"AsleepPass$Trails", "canBeBehind", "(II)Z"⟩, 3), (⟨"AsleepPass$Trails", "falling", "(LAsleepPass$Way;I)I"⟩, 3), (⟨"AsleepPass$Trails", "rising", "(LAsleepPass$Way;I)I"⟩, 3), (⟨"AsleepPass$Sheets", "renew", "(III)V"⟩, 7), (⟨"AsleepPass$Sheets", "faultAt", "(IJ)I"⟩, 7), (⟨"AsleepPass$Sheets", "fill", "(III)V"⟩, 7), (⟨"AsleepPass$Sheets", "takePairs", "(IIII)V"⟩, 7), (⟨"AsleepPass$Sheets", "sizeOf", "(I)I"⟩, 7), (⟨"AsleepPass$Way", "handOvers", "()I"⟩, 9), (⟨"AsleepPassModel", "goesOn", "()V"⟩, 35), (⟨"AsleepPassModel", "byteAt", "(I)I"⟩, 35), (⟨"AsleepPassModel", "fails", "(I)V"⟩, 35), (⟨"AsleepPassModel", "readLine", "()V"⟩, 35), (⟨"AsleepPassModel", "nameHere", "()I"⟩, 35)]
theorem lw_r4 : ∀ q ∈ lw_privs_4, lw_okq q := List.forall_mem_cons.mpr ⟨lw_p48, List.forall_mem_cons.mpr ⟨lw_p49, List.forall_mem_cons.mpr ⟨lw_p50, List.forall_mem_cons.mpr ⟨lw_p51, List.forall_mem_cons.mpr ⟨lw_p52, List.forall_mem_cons.mpr ⟨lw_p53, List.forall_mem_cons.mpr ⟨lw_p54, List.forall_mem_cons.mpr ⟨lw_p55, List.forall_mem_cons.mpr ⟨lw_p56, List.forall_mem_cons.mpr ⟨lw_p57, List.forall_mem_cons.mpr ⟨lw_p58, List.forall_mem_cons.mpr ⟨lw_p59, List.forall_mem_cons.mpr ⟨lw_p60, List.forall_mem_cons.mpr ⟨lw_p61, List.forall_mem_cons.mpr ⟨lw_p62, List.forall_mem_cons.mpr ⟨lw_p63, fun _ h => absurd h List.not_mem_nil⟩⟩⟩⟩⟩⟩⟩⟩⟩⟩⟩⟩⟩⟩⟩⟩
theorem lw_p64 : lw_okq (⟨"AsleepPassModel", "readBearer", "()V"⟩, 35) := ⟨⟨by decide +kernel, by decide +kernel⟩, List.mem_of_getElem? (i := 873) (by decide +kernel), List.mem_of_getElem? (i := 1025) (by decide +kernel), List.mem_of_getElem? (i := 1026) (by decide +kernel)⟩
theorem lw_p65 : lw_okq (⟨"AsleepPassModel", "other", "(III)I"⟩, 35) := ⟨⟨by decide +kernel, by decide +kernel⟩, List.mem_of_getElem? (i := 873) (by decide +kernel), List.mem_of_getElem? (i := 1029) (by decide +kernel), List.mem_of_getElem? (i := 1030) (by decide +kernel)⟩
theorem lw_p66 : lw_okq (⟨"AsleepPassModel", "readMore", "(I)V"⟩, 35) := ⟨⟨by decide +kernel, by decide +kernel⟩, List.mem_of_getElem? (i := 873) (by decide +kernel), List.mem_of_getElem? (i := 1033) (by decide +kernel), List.mem_of_getElem? (i := 1034) (by decide +kernel)⟩
theorem lw_p67 : lw_okq (⟨"AsleepPassModel", "startNow", "()I"⟩, 35) := ⟨⟨by decide +kernel, by decide +kernel⟩, List.mem_of_getElem? (i := 873) (by decide +kernel), List.mem_of_getElem? (i := 1045) (by decide +kernel), List.mem_of_getElem? (i := 1046) (by decide +kernel)⟩
theorem lw_p68 : lw_okq (⟨"AsleepPassModel", "isStretch", "(I)Z"⟩, 35) := ⟨⟨by decide +kernel, by decide +kernel⟩, List.mem_of_getElem? (i := 873) (by decide +kernel), List.mem_of_getElem? (i := 1053) (by decide +kernel), List.mem_of_getElem? (i := 1054) (by decide +kernel)⟩
theorem lw_p69 : lw_okq (⟨"AsleepPassModel", "isBearer", "(I)Z"⟩, 35) := ⟨⟨by decide +kernel, by decide +kernel⟩, List.mem_of_getElem? (i := 873) (by decide +kernel), List.mem_of_getElem? (i := 1062) (by decide +kernel), List.mem_of_getElem? (i := 1063) (by decide +kernel)⟩
theorem lw_p70 : lw_okq (⟨"AsleepPassModel", "sets", "(ZII)I"⟩, 35) := ⟨⟨by decide +kernel, by decide +kernel⟩, List.mem_of_getElem? (i := 873) (by decide +kernel), List.mem_of_getElem? (i := 1071) (by decide +kernel), List.mem_of_getElem? (i := 1072) (by decide +kernel)⟩
theorem lw_p71 : lw_okq (⟨"AsleepPassModel", "puts", "(II)I"⟩, 35) := ⟨⟨by decide +kernel, by decide +kernel⟩, List.mem_of_getElem? (i := 873) (by decide +kernel), List.mem_of_getElem? (i := 1095) (by decide +kernel), List.mem_of_getElem? (i := 1096) (by decide +kernel)⟩
theorem lw_p72 : lw_okq (⟨"AsleepPassModel", "canHarm", "(III)Z"⟩, 35) := ⟨⟨by decide +kernel, by decide +kernel⟩, List.mem_of_getElem? (i := 873) (by decide +kernel), List.mem_of_getElem? (i := 1103) (by decide +kernel), List.mem_of_getElem? (i := 1104) (by decide +kernel)⟩
theorem lw_p73 : lw_okq (⟨"AsleepPassModel", "harmOf", "(IIIZ)I"⟩, 35) := ⟨⟨by decide +kernel, by decide +kernel⟩, List.mem_of_getElem? (i := 873) (by decide +kernel), List.mem_of_getElem? (i := 1107) (by decide +kernel), List.mem_of_getElem? (i := 1108) (by decide +kernel)⟩
theorem lw_p74 : lw_okq (⟨"AsleepPassModel", "kindOf", "(I)I"⟩, 35) := ⟨⟨by decide +kernel, by decide +kernel⟩, List.mem_of_getElem? (i := 873) (by decide +kernel), List.mem_of_getElem? (i := 1111) (by decide +kernel), List.mem_of_getElem? (i := 1112) (by decide +kernel)⟩
theorem lw_p75 : lw_okq (⟨"AsleepPassModel", "layOdds", "(III)V"⟩, 35) := ⟨⟨by decide +kernel, by decide +kernel⟩, List.mem_of_getElem? (i := 873) (by decide +kernel), List.mem_of_getElem? (i := 1120) (by decide +kernel), List.mem_of_getElem? (i := 1121) (by decide +kernel)⟩
theorem lw_p76 : lw_okq (⟨"AsleepPassModel", "orderedHarm", "(IZ)I"⟩, 35) := ⟨⟨by decide +kernel, by decide +kernel⟩, List.mem_of_getElem? (i := 873) (by decide +kernel), List.mem_of_getElem? (i := 1124) (by decide +kernel), List.mem_of_getElem? (i := 1125) (by decide +kernel)⟩
theorem lw_p77 : lw_okq (⟨"AsleepPassModel", "layBest", "(I)V"⟩, 35) := ⟨⟨by decide +kernel, by decide +kernel⟩, List.mem_of_getElem? (i := 873) (by decide +kernel), List.mem_of_getElem? (i := 1151) (by decide +kernel), List.mem_of_getElem? (i := 1152) (by decide +kernel)⟩
theorem lw_p78 : lw_okq (⟨"AsleepPassModel", "byOne", "(IIII)J"⟩, 35) := ⟨⟨by decide +kernel, by decide +kernel⟩, List.mem_of_getElem? (i := 873) (by decide +kernel), List.mem_of_getElem? (i := 1156) (by decide +kernel), List.mem_of_getElem? (i := 1157) (by decide +kernel)⟩
theorem lw_p79 : lw_okq (⟨"AsleepPassModel", "changes", "(II)V"⟩, 35) := ⟨⟨by decide +kernel, by decide +kernel⟩, List.mem_of_getElem? (i := 873) (by decide +kernel), List.mem_of_getElem? (i := 1188) (by decide +kernel), List.mem_of_getElem? (i := 1189) (by decide +kernel)⟩
def lw_privs_5 : List (MethodName × Nat) := [(⟨"AsleepPassModel", "readBearer", "()V"⟩, 35), (⟨"AsleepPassModel", "other", "(III)I"⟩, 35), (⟨"AsleepPassModel", "readMore", "(I)V"⟩, 35), (⟨"AsleepPassModel", "startNow", "()I"⟩, 35), (⟨"AsleepPassModel", "isStretch", "(I)Z"⟩, 35), (⟨"AsleepPassModel", "isBearer", "(I)Z"⟩, 35), (⟨"AsleepPassModel", "sets", "(ZII)I"⟩, 35), (⟨"AsleepPassModel", "puts", "(II)I"⟩, 35), (⟨"AsleepPassModel", "canHarm", "(III)Z"⟩, 35), (⟨"AsleepPassModel", "harmOf", "(IIIZ)I"⟩, 35), (⟨"AsleepPassModel", "kindOf", "(I)I"⟩, 35), (⟨"AsleepPassModel", "layOdds", "(III)V"⟩, 35), (⟨"AsleepPassModel", "orderedHarm", "(IZ)I"⟩, 35), (⟨"AsleepPassModel", "layBest", "(I)V"⟩, 35), (⟨"AsleepPassModel", "byOne", "(IIII)J"⟩, 35), (⟨"AsleepPassModel", "changes", "(II)V"⟩, 35)]
theorem lw_r5 : ∀ q ∈ lw_privs_5, lw_okq q := List.forall_mem_cons.mpr ⟨lw_p64, List.forall_mem_cons.mpr ⟨lw_p65, List.forall_mem_cons.mpr ⟨lw_p66, List.forall_mem_cons.mpr ⟨lw_p67, List.forall_mem_cons.mpr ⟨lw_p68, List.forall_mem_cons.mpr ⟨lw_p69, List.forall_mem_cons.mpr ⟨lw_p70, List.forall_mem_cons.mpr ⟨lw_p71, List.forall_mem_cons.mpr ⟨lw_p72, List.forall_mem_cons.mpr ⟨lw_p73, List.forall_mem_cons.mpr ⟨lw_p74, List.forall_mem_cons.mpr ⟨lw_p75, List.forall_mem_cons.mpr ⟨lw_p76, List.forall_mem_cons.mpr ⟨lw_p77, List.forall_mem_cons.mpr ⟨lw_p78, List.forall_mem_cons.mpr ⟨lw_p79, fun _ h => absurd h List.not_mem_nil⟩⟩⟩⟩⟩⟩⟩⟩⟩⟩⟩⟩⟩⟩⟩⟩
theorem lw_p80 : lw_okq (⟨"AsleepPassModel", "layPaths", "()V"⟩, 35) := ⟨⟨by decide +kernel, by decide +kernel⟩, List.mem_of_getElem? (i := 873) (by decide +kernel), List.mem_of_getElem? (i := 1221) (by decide +kernel), List.mem_of_getElem? (i := 1222) (by decide +kernel)⟩
theorem lw_p81 : lw_okq (⟨"AsleepPassModel", "depthThen", "(IIZ)I"⟩, 35) := ⟨⟨by decide +kernel, by decide +kernel⟩, List.mem_of_getElem? (i := 873) (by decide +kernel), List.mem_of_getElem? (i := 1225) (by decide +kernel), List.mem_of_getElem? (i := 1226) (by decide +kernel)⟩
theorem lw_p82 : lw_okq (⟨"AsleepPassModel", "isMarked", "(II)Z"⟩, 35) := ⟨⟨by decide +kernel, by decide +kernel⟩, List.mem_of_getElem? (i := 873) (by decide +kernel), List.mem_of_getElem? (i := 1229) (by decide +kernel), List.mem_of_getElem? (i := 1230) (by decide +kernel)⟩
theorem lw_p83 : lw_okq (⟨"AsleepPassModel", "onward", "(IIZ)I"⟩, 35) := ⟨⟨by decide +kernel, by decide +kernel⟩, List.mem_of_getElem? (i := 873) (by decide +kernel), List.mem_of_getElem? (i := 1233) (by decide +kernel), List.mem_of_getElem? (i := 1234) (by decide +kernel)⟩
theorem lw_p84 : lw_okq (⟨"AsleepPassModel", "copies", "(II)V"⟩, 35) := ⟨⟨by decide +kernel, by decide +kernel⟩, List.mem_of_getElem? (i := 873) (by decide +kernel), List.mem_of_getElem? (i := 1249) (by decide +kernel), List.mem_of_getElem? (i := 1250) (by decide +kernel)⟩
def lw_privs_6 : List (MethodName × Nat) := [(⟨"AsleepPassModel", "layPaths", "()V"⟩, 35), (⟨"AsleepPassModel", "depthThen", "(IIZ)I"⟩, 35), (⟨"AsleepPassModel", "isMarked", "(II)Z"⟩, 35), (⟨"AsleepPassModel", "onward", "(IIZ)I"⟩, 35), (⟨"AsleepPassModel", "copies", "(II)V"⟩, 35)]
theorem lw_r6 : ∀ q ∈ lw_privs_6, lw_okq q := List.forall_mem_cons.mpr ⟨lw_p80, List.forall_mem_cons.mpr ⟨lw_p81, List.forall_mem_cons.mpr ⟨lw_p82, List.forall_mem_cons.mpr ⟨lw_p83, List.forall_mem_cons.mpr ⟨lw_p84, fun _ h => absurd h List.not_mem_nil⟩⟩⟩⟩⟩
def lw_privs : List (MethodName × Nat) := lw_privs_1 ++ (lw_privs_2 ++ (lw_privs_3 ++ (lw_privs_4 ++ (lw_privs_5 ++ (lw_privs_6)))))
def lw_tbl : List Cond := k2_sels lw_privs ++ tables_1
theorem lw_privs_ok : ∀ q ∈ lw_privs, lw_okq q := by
  show ∀ q ∈ lw_privs_1 ++ (lw_privs_2 ++ (lw_privs_3 ++ (lw_privs_4 ++ (lw_privs_5 ++ (lw_privs_6))))), lw_okq q
  exact List.forall_mem_append.mpr ⟨lw_r1, List.forall_mem_append.mpr ⟨lw_r2, List.forall_mem_append.mpr ⟨lw_r3, List.forall_mem_append.mpr ⟨lw_r4, List.forall_mem_append.mpr ⟨lw_r5, lw_r6⟩⟩⟩⟩⟩

def RX0 : String := "AsleepPass$Choice"
def TX0 : u_T := fun k => match k with
  | 0 => ("AsleepPass$Choice", "whole", "J", false)
  | 1 => ("AsleepPass$Choice", "waking", "[[J", true)
  | _ => ("AsleepPass$Choice", "chosen", "[[I", true)
def tyX0 : Nat → FieldType := fun k => match k with
  | 0 => .long
  | 1 => .array (.array .long)
  | _ => .array (.array .int)
theorem nmX0 : ∀ a, a < 3 → ∀ b, b < 3 → a ≠ b → (TX0 a).2.1 ≠ (TX0 b).2.1 := by decide +kernel
theorem tyX0_ok : ∀ k, k < 3 → parseFieldDescriptor (TX0 k).2.2.1 = some (tyX0 k) := by decide +kernel
abbrev cX0_init : ByteArray := prog_2_method_1_code
def yX0_init : MethodName := ⟨RX0, "<init>", "()V"⟩
abbrev cX0_slot : ByteArray := prog_2_method_2_code
def yX0_slot : MethodName := ⟨RX0, "slot", "(II)I"⟩
abbrev cX0_plan : ByteArray := prog_2_method_3_code
def yX0_plan : MethodName := ⟨RX0, "plan", "(LAsleepPass$Way;I)V"⟩
abbrev cX0_chooseFrom : ByteArray := prog_2_method_4_code
def yX0_chooseFrom : MethodName := ⟨RX0, "chooseFrom", "(LAsleepPass$Way;III)V"⟩
abbrev cX0_weigh : ByteArray := prog_2_method_5_code
def yX0_weigh : MethodName := ⟨RX0, "weigh", "(IIII)V"⟩
abbrev cX0_wakingAtFirst : ByteArray := prog_2_method_6_code
def yX0_wakingAtFirst : MethodName := ⟨RX0, "wakingAtFirst", "(LAsleepPass$Way;)J"⟩
def RX1 : String := "AsleepPass$Crossing"
def TX1 : u_T := fun k => match k with
  | 0 => ("AsleepPass$Crossing", "depthNow", "I", false)
  | 1 => ("AsleepPass$Crossing", "falls", "I", false)
  | _ => ("AsleepPass$Crossing", "wokeOn", "I", false)
def tyX1 : Nat → FieldType := fun k => match k with
  | 0 => .int
  | 1 => .int
  | _ => .int
theorem nmX1 : ∀ a, a < 3 → ∀ b, b < 3 → a ≠ b → (TX1 a).2.1 ≠ (TX1 b).2.1 := by decide +kernel
theorem tyX1_ok : ∀ k, k < 3 → parseFieldDescriptor (TX1 k).2.2.1 = some (tyX1 k) := by decide +kernel
abbrev cX1_init : ByteArray := prog_3_method_1_code
def yX1_init : MethodName := ⟨RX1, "<init>", "()V"⟩
abbrev cX1_cross : ByteArray := prog_3_method_2_code
def yX1_cross : MethodName := ⟨RX1, "cross", "(LAsleepPass$Way;I)V"⟩
def RX2 : String := "AsleepPass$Learnt"
def TX2 : u_T := fun k => match k with
  | 0 => ("AsleepPass$Learnt", "size", "I", false)
  | 1 => ("AsleepPass$Learnt", "stretchOf", "[I", true)
  | 2 => ("AsleepPass$Learnt", "giverOf", "[I", true)
  | 3 => ("AsleepPass$Learnt", "takerOf", "[I", true)
  | _ => ("AsleepPass$Learnt", "harmOf", "[I", true)
def tyX2 : Nat → FieldType := fun k => match k with
  | 0 => .int
  | 1 => .array .int
  | 2 => .array .int
  | 3 => .array .int
  | _ => .array .int
theorem nmX2 : ∀ a, a < 5 → ∀ b, b < 5 → a ≠ b → (TX2 a).2.1 ≠ (TX2 b).2.1 := by decide +kernel
theorem tyX2_ok : ∀ k, k < 5 → parseFieldDescriptor (TX2 k).2.2.1 = some (tyX2 k) := by decide +kernel
abbrev cX2_init : ByteArray := prog_4_method_1_code
def yX2_init : MethodName := ⟨RX2, "<init>", "()V"⟩
abbrev cX2_add : ByteArray := prog_4_method_2_code
def yX2_add : MethodName := ⟨RX2, "add", "(IIII)Z"⟩
abbrev cX2_isSo : ByteArray := prog_4_method_3_code
def yX2_isSo : MethodName := ⟨RX2, "isSo", "(LAsleepPass$Way;)Z"⟩
def RX3 : String := "AsleepPass$Marked"
def TX3 : u_T := fun k => match k with
  | 0 => ("AsleepPass$Marked", "size", "I", false)
  | 1 => ("AsleepPass$Marked", "stretchOf", "[I", true)
  | _ => ("AsleepPass$Marked", "depthOf", "[I", true)
def tyX3 : Nat → FieldType := fun k => match k with
  | 0 => .int
  | 1 => .array .int
  | _ => .array .int
theorem nmX3 : ∀ a, a < 3 → ∀ b, b < 3 → a ≠ b → (TX3 a).2.1 ≠ (TX3 b).2.1 := by decide +kernel
theorem tyX3_ok : ∀ k, k < 3 → parseFieldDescriptor (TX3 k).2.2.1 = some (tyX3 k) := by decide +kernel
abbrev cX3_init : ByteArray := prog_5_method_1_code
def yX3_init : MethodName := ⟨RX3, "<init>", "()V"⟩
abbrev cX3_add : ByteArray := prog_5_method_2_code
def yX3_add : MethodName := ⟨RX3, "add", "(II)Z"⟩
abbrev cX3_allows : ByteArray := prog_5_method_3_code
def yX3_allows : MethodName := ⟨RX3, "allows", "(II)Z"⟩
def RX4 : String := "AsleepPass$Odds"
def TX4 : u_T := fun k => match k with
  | 0 => ("AsleepPass$Odds", "whole", "J", false)
  | 1 => ("AsleepPass$Odds", "shares", "[J", true)
  | _ => ("AsleepPass$Odds", "ahead", "[J", true)
def tyX4 : Nat → FieldType := fun k => match k with
  | 0 => .long
  | 1 => .array .long
  | _ => .array .long
theorem nmX4 : ∀ a, a < 3 → ∀ b, b < 3 → a ≠ b → (TX4 a).2.1 ≠ (TX4 b).2.1 := by decide +kernel
theorem tyX4_ok : ∀ k, k < 3 → parseFieldDescriptor (TX4 k).2.2.1 = some (tyX4 k) := by decide +kernel
abbrev cX4_init : ByteArray := prog_6_method_1_code
def yX4_init : MethodName := ⟨RX4, "<init>", "()V"⟩
abbrev cX4_waking : ByteArray := prog_6_method_2_code
def yX4_waking : MethodName := ⟨RX4, "waking", "(LAsleepPass$Way;II)J"⟩
abbrev cX4_begin : ByteArray := prog_6_method_3_code
def yX4_begin : MethodName := ⟨RX4, "begin", "(I)V"⟩
abbrev cX4_takeAhead : ByteArray := prog_6_method_4_code
def yX4_takeAhead : MethodName := ⟨RX4, "takeAhead", "()V"⟩
abbrev cX4_pass : ByteArray := prog_6_method_5_code
def yX4_pass : MethodName := ⟨RX4, "pass", "(I)V"⟩
abbrev cX4_deepen : ByteArray := prog_6_method_6_code
def yX4_deepen : MethodName := ⟨RX4, "deepen", "()V"⟩
def RX5 : String := "AsleepPass$Reader"
def TX5 : u_T := fun k => match k with
  | 0 => ("AsleepPass$Reader", "tape", "LAsleepPass$Tape;", true)
  | 1 => ("AsleepPass$Reader", "told", "LAsleepPass$Way;", true)
  | 2 => ("AsleepPass$Reader", "found", "I", false)
  | 3 => ("AsleepPass$Reader", "place", "I", false)
  | 4 => ("AsleepPass$Reader", "lines", "I", false)
  | 5 => ("AsleepPass$Reader", "token", "I", false)
  | 6 => ("AsleepPass$Reader", "first", "I", false)
  | 7 => ("AsleepPass$Reader", "past", "I", false)
  | 8 => ("AsleepPass$Reader", "startTold", "Z", false)
  | 9 => ("AsleepPass$Reader", "carried", "I", false)
  | 10 => ("AsleepPass$Reader", "furthestStretch", "I", false)
  | _ => ("AsleepPass$Reader", "furthestBearer", "I", false)
def tyX5 : Nat → FieldType := fun k => match k with
  | 0 => .object "AsleepPass$Tape"
  | 1 => .object "AsleepPass$Way"
  | 2 => .int
  | 3 => .int
  | 4 => .int
  | 5 => .int
  | 6 => .int
  | 7 => .int
  | 8 => .boolean
  | 9 => .int
  | 10 => .int
  | _ => .int
theorem nmX5 : ∀ a, a < 12 → ∀ b, b < 12 → a ≠ b → (TX5 a).2.1 ≠ (TX5 b).2.1 := by decide +kernel
theorem tyX5_ok : ∀ k, k < 12 → parseFieldDescriptor (TX5 k).2.2.1 = some (tyX5 k) := by decide +kernel
abbrev cX5_init : ByteArray := prog_7_method_1_code
def yX5_init : MethodName := ⟨RX5, "<init>", "()V"⟩
abbrev cX5_readAll : ByteArray := prog_7_method_2_code
def yX5_readAll : MethodName := ⟨RX5, "readAll", "()V"⟩
abbrev cX5_begin : ByteArray := prog_7_method_3_code
def yX5_begin : MethodName := ⟨RX5, "begin", "()V"⟩
abbrev cX5_refuse : ByteArray := prog_7_method_4_code
def yX5_refuse : MethodName := ⟨RX5, "refuse", "(II)Z"⟩
abbrev cX5_nextToken : ByteArray := prog_7_method_5_code
def yX5_nextToken : MethodName := ⟨RX5, "nextToken", "()Z"⟩
abbrev cX5_isName : ByteArray := prog_7_method_6_code
def yX5_isName : MethodName := ⟨RX5, "isName", "(Ljava/lang/String;)Z"⟩
abbrev cX5_readLine : ByteArray := prog_7_method_7_code
def yX5_readLine : MethodName := ⟨RX5, "readLine", "()Z"⟩
abbrev cX5_readStart : ByteArray := prog_7_method_8_code
def yX5_readStart : MethodName := ⟨RX5, "readStart", "()Z"⟩
abbrev cX5_readStretch : ByteArray := prog_7_method_9_code
def yX5_readStretch : MethodName := ⟨RX5, "readStretch", "()Z"⟩
abbrev cX5_readBearer : ByteArray := prog_7_method_10_code
def yX5_readBearer : MethodName := ⟨RX5, "readBearer", "()Z"⟩
abbrev cX5_readCarry : ByteArray := prog_7_method_11_code
def yX5_readCarry : MethodName := ⟨RX5, "readCarry", "()Z"⟩
abbrev cX5_kind : ByteArray := prog_7_method_12_code
def yX5_kind : MethodName := ⟨RX5, "kind", "()I"⟩
abbrev cX5_nextNumber : ByteArray := prog_7_method_13_code
def yX5_nextNumber : MethodName := ⟨RX5, "nextNumber", "(II)Z"⟩
abbrev cX5_nextStop : ByteArray := prog_7_method_14_code
def yX5_nextStop : MethodName := ⟨RX5, "nextStop", "()Z"⟩
abbrev cX5_value : ByteArray := prog_7_method_15_code
def yX5_value : MethodName := ⟨RX5, "value", "()I"⟩
abbrev cX5_lookBehindAll : ByteArray := prog_7_method_16_code
def yX5_lookBehindAll : MethodName := ⟨RX5, "lookBehindAll", "()V"⟩
def RX6 : String := "AsleepPass$Sheets"
def TX6 : u_T := fun k => match k with
  | 0 => ("AsleepPass$Sheets", "lanes", "[I", true)
  | 1 => ("AsleepPass$Sheets", "sizes", "[I", true)
  | 2 => ("AsleepPass$Sheets", "cells", "[[I", true)
  | 3 => ("AsleepPass$Sheets", "found", "I", false)
  | 4 => ("AsleepPass$Sheets", "pairs", "I", false)
  | 5 => ("AsleepPass$Sheets", "firsts", "[I", true)
  | _ => ("AsleepPass$Sheets", "seconds", "[I", true)
def tyX6 : Nat → FieldType := fun k => match k with
  | 0 => .array .int
  | 1 => .array .int
  | 2 => .array (.array .int)
  | 3 => .int
  | 4 => .int
  | 5 => .array .int
  | _ => .array .int
theorem nmX6 : ∀ a, a < 7 → ∀ b, b < 7 → a ≠ b → (TX6 a).2.1 ≠ (TX6 b).2.1 := by decide +kernel
theorem tyX6_ok : ∀ k, k < 7 → parseFieldDescriptor (TX6 k).2.2.1 = some (tyX6 k) := by decide +kernel
abbrev cX6_init : ByteArray := prog_8_method_1_code
def yX6_init : MethodName := ⟨RX6, "<init>", "()V"⟩
abbrev cX6_isSheet : ByteArray := prog_8_method_2_code
def yX6_isSheet : MethodName := ⟨RX6, "isSheet", "(I)Z"⟩
abbrev cX6_isLane : ByteArray := prog_8_method_3_code
def yX6_isLane : MethodName := ⟨RX6, "isLane", "(I)Z"⟩
abbrev cX6_renew : ByteArray := prog_8_method_4_code
def yX6_renew : MethodName := ⟨RX6, "renew", "(III)V"⟩
abbrev cX6_sizeOf : ByteArray := prog_8_method_5_code
def yX6_sizeOf : MethodName := ⟨RX6, "sizeOf", "(I)I"⟩
abbrev cX6_faultAt : ByteArray := prog_8_method_6_code
def yX6_faultAt : MethodName := ⟨RX6, "faultAt", "(IJ)I"⟩
abbrev cX6_fill : ByteArray := prog_8_method_7_code
def yX6_fill : MethodName := ⟨RX6, "fill", "(III)V"⟩
abbrev cX6_takePairs : ByteArray := prog_8_method_8_code
def yX6_takePairs : MethodName := ⟨RX6, "takePairs", "(IIII)V"⟩
def RX7 : String := "AsleepPass$Tape"
def TX7 : u_T := fun k => match k with
  | 0 => ("AsleepPass$Tape", "length", "I", false)
  | _ => ("AsleepPass$Tape", "bytes", "[I", true)
def tyX7 : Nat → FieldType := fun k => match k with
  | 0 => .int
  | _ => .array .int
theorem nmX7 : ∀ a, a < 2 → ∀ b, b < 2 → a ≠ b → (TX7 a).2.1 ≠ (TX7 b).2.1 := by decide +kernel
theorem tyX7_ok : ∀ k, k < 2 → parseFieldDescriptor (TX7 k).2.2.1 = some (tyX7 k) := by decide +kernel
abbrev cX7_init : ByteArray := prog_9_method_1_code
def yX7_init : MethodName := ⟨RX7, "<init>", "()V"⟩
abbrev cX7_addBytes : ByteArray := prog_9_method_2_code
def yX7_addBytes : MethodName := ⟨RX7, "addBytes", "(J)Z"⟩
abbrev cX7_byteAt : ByteArray := prog_9_method_3_code
def yX7_byteAt : MethodName := ⟨RX7, "byteAt", "(I)I"⟩
abbrev cX7_says : ByteArray := prog_9_method_4_code
def yX7_says : MethodName := ⟨RX7, "says", "(IILjava/lang/String;)Z"⟩
abbrev cX7_pastAll : ByteArray := prog_9_method_5_code
def yX7_pastAll : MethodName := ⟨RX7, "pastAll", "(ICC)I"⟩
def RX8 : String := "AsleepPass$Trails"
def TX8 : u_T := fun k => match k with
  | 0 => ("AsleepPass$Trails", "total", "I", false)
  | 1 => ("AsleepPass$Trails", "into", "[[I", true)
  | _ => ("AsleepPass$Trails", "onward", "[[I", true)
def tyX8 : Nat → FieldType := fun k => match k with
  | 0 => .int
  | 1 => .array (.array .int)
  | _ => .array (.array .int)
theorem nmX8 : ∀ a, a < 3 → ∀ b, b < 3 → a ≠ b → (TX8 a).2.1 ≠ (TX8 b).2.1 := by decide +kernel
theorem tyX8_ok : ∀ k, k < 3 → parseFieldDescriptor (TX8 k).2.2.1 = some (tyX8 k) := by decide +kernel
abbrev cX8_init : ByteArray := prog_10_method_1_code
def yX8_init : MethodName := ⟨RX8, "<init>", "()V"⟩
abbrev cX8_explore : ByteArray := prog_10_method_2_code
def yX8_explore : MethodName := ⟨RX8, "explore", "(LAsleepPass$Way;LAsleepPass$Marked;)V"⟩
abbrev cX8_dropUnmarked : ByteArray := prog_10_method_3_code
def yX8_dropUnmarked : MethodName := ⟨RX8, "dropUnmarked", "([ILAsleepPass$Marked;I)V"⟩
abbrev cX8_leadInto : ByteArray := prog_10_method_4_code
def yX8_leadInto : MethodName := ⟨RX8, "leadInto", "(II)V"⟩
abbrev cX8_leadOnward : ByteArray := prog_10_method_5_code
def yX8_leadOnward : MethodName := ⟨RX8, "leadOnward", "(II)V"⟩
abbrev cX8_canBeBehind : ByteArray := prog_10_method_6_code
def yX8_canBeBehind : MethodName := ⟨RX8, "canBeBehind", "(II)Z"⟩
abbrev cX8_falling : ByteArray := prog_10_method_7_code
def yX8_falling : MethodName := ⟨RX8, "falling", "(LAsleepPass$Way;I)I"⟩
abbrev cX8_rising : ByteArray := prog_10_method_8_code
def yX8_rising : MethodName := ⟨RX8, "rising", "(LAsleepPass$Way;I)I"⟩
def RX9 : String := "AsleepPass$Way"
def TX9 : u_T := fun k => match k with
  | 0 => ("AsleepPass$Way", "stretches", "I", false)
  | 1 => ("AsleepPass$Way", "bearers", "I", false)
  | 2 => ("AsleepPass$Way", "startDepth", "I", false)
  | 3 => ("AsleepPass$Way", "noises", "[I", true)
  | 4 => ("AsleepPass$Way", "colds", "[I", true)
  | 5 => ("AsleepPass$Way", "order", "[I", true)
  | 6 => ("AsleepPass$Way", "kinds", "[I", true)
  | 7 => ("AsleepPass$Way", "paces", "[I", true)
  | _ => ("AsleepPass$Way", "warmths", "[I", true)
def tyX9 : Nat → FieldType := fun k => match k with
  | 0 => .int
  | 1 => .int
  | 2 => .int
  | 3 => .array .int
  | 4 => .array .int
  | 5 => .array .int
  | 6 => .array .int
  | 7 => .array .int
  | _ => .array .int
theorem nmX9 : ∀ a, a < 9 → ∀ b, b < 9 → a ≠ b → (TX9 a).2.1 ≠ (TX9 b).2.1 := by decide +kernel
theorem tyX9_ok : ∀ k, k < 9 → parseFieldDescriptor (TX9 k).2.2.1 = some (tyX9 k) := by decide +kernel
abbrev cX9_init : ByteArray := prog_11_method_1_code
def yX9_init : MethodName := ⟨RX9, "<init>", "()V"⟩
abbrev cX9_clear : ByteArray := prog_11_method_2_code
def yX9_clear : MethodName := ⟨RX9, "clear", "()V"⟩
abbrev cX9_copyOf : ByteArray := prog_11_method_3_code
def yX9_copyOf : MethodName := ⟨RX9, "copyOf", "(LAsleepPass$Way;)V"⟩
abbrev cX9_hasStretch : ByteArray := prog_11_method_4_code
def yX9_hasStretch : MethodName := ⟨RX9, "hasStretch", "(I)Z"⟩
abbrev cX9_hasBearer : ByteArray := prog_11_method_5_code
def yX9_hasBearer : MethodName := ⟨RX9, "hasBearer", "(I)Z"⟩
abbrev cX9_addStretch : ByteArray := prog_11_method_6_code
def yX9_addStretch : MethodName := ⟨RX9, "addStretch", "(II)V"⟩
abbrev cX9_addBearer : ByteArray := prog_11_method_7_code
def yX9_addBearer : MethodName := ⟨RX9, "addBearer", "(III)V"⟩
abbrev cX9_canHand : ByteArray := prog_11_method_8_code
def yX9_canHand : MethodName := ⟨RX9, "canHand", "(III)Z"⟩
abbrev cX9_harmBy : ByteArray := prog_11_method_9_code
def yX9_harmBy : MethodName := ⟨RX9, "harmBy", "(III)I"⟩
abbrev cX9_noiseBy : ByteArray := prog_11_method_10_code
def yX9_noiseBy : MethodName := ⟨RX9, "noiseBy", "(II)I"⟩
abbrev cX9_coldBy : ByteArray := prog_11_method_11_code
def yX9_coldBy : MethodName := ⟨RX9, "coldBy", "(II)I"⟩
abbrev cX9_joltBy : ByteArray := prog_11_method_12_code
def yX9_joltBy : MethodName := ⟨RX9, "joltBy", "(II)I"⟩
abbrev cX9_harmInOrder : ByteArray := prog_11_method_13_code
def yX9_harmInOrder : MethodName := ⟨RX9, "harmInOrder", "(I)I"⟩
abbrev cX9_exchange : ByteArray := prog_11_method_14_code
def yX9_exchange : MethodName := ⟨RX9, "exchange", "(II)V"⟩
abbrev cX9_handOvers : ByteArray := prog_11_method_15_code
def yX9_handOvers : MethodName := ⟨RX9, "handOvers", "()I"⟩
def RX10 : String := "AsleepPass"
def TX10 : u_T := fun k => match k with
  | 0 => ("AsleepPass", "reader", "LAsleepPass$Reader;", true)
  | 1 => ("AsleepPass", "way", "LAsleepPass$Way;", true)
  | 2 => ("AsleepPass", "trial", "LAsleepPass$Way;", true)
  | 3 => ("AsleepPass", "images", "[LAsleepPass$Way;", true)
  | 4 => ("AsleepPass", "kept", "[Z", true)
  | 5 => ("AsleepPass", "odds", "LAsleepPass$Odds;", true)
  | 6 => ("AsleepPass", "choice", "LAsleepPass$Choice;", true)
  | 7 => ("AsleepPass", "crossing", "LAsleepPass$Crossing;", true)
  | 8 => ("AsleepPass", "learnt", "LAsleepPass$Learnt;", true)
  | 9 => ("AsleepPass", "marked", "LAsleepPass$Marked;", true)
  | 10 => ("AsleepPass", "trails", "LAsleepPass$Trails;", true)
  | 11 => ("AsleepPass", "sheets", "LAsleepPass$Sheets;", true)
  | 12 => ("AsleepPass", "textFault", "I", false)
  | _ => ("AsleepPass", "readFault", "I", false)
def tyX10 : Nat → FieldType := fun k => match k with
  | 0 => .object "AsleepPass$Reader"
  | 1 => .object "AsleepPass$Way"
  | 2 => .object "AsleepPass$Way"
  | 3 => .array (.object "AsleepPass$Way")
  | 4 => .array .boolean
  | 5 => .object "AsleepPass$Odds"
  | 6 => .object "AsleepPass$Choice"
  | 7 => .object "AsleepPass$Crossing"
  | 8 => .object "AsleepPass$Learnt"
  | 9 => .object "AsleepPass$Marked"
  | 10 => .object "AsleepPass$Trails"
  | 11 => .object "AsleepPass$Sheets"
  | 12 => .int
  | _ => .int
theorem nmX10 : ∀ a, a < 14 → ∀ b, b < 14 → a ≠ b → (TX10 a).2.1 ≠ (TX10 b).2.1 := by decide +kernel
theorem tyX10_ok : ∀ k, k < 14 → parseFieldDescriptor (TX10 k).2.2.1 = some (tyX10 k) := by decide +kernel
abbrev cX10_init : ByteArray := prog_1_method_1_code
def yX10_init : MethodName := ⟨RX10, "<init>", "()V"⟩
abbrev cX10_feed : ByteArray := prog_1_method_2_code
def yX10_feed : MethodName := ⟨RX10, "feed", "(J)I"⟩
abbrev cX10_end : ByteArray := prog_1_method_3_code
def yX10_end : MethodName := ⟨RX10, "end", "(I)I"⟩
abbrev cX10_text : ByteArray := prog_1_method_4_code
def yX10_text : MethodName := ⟨RX10, "text", "()I"⟩
abbrev cX10_fault : ByteArray := prog_1_method_5_code
def yX10_fault : MethodName := ⟨RX10, "fault", "()I"⟩
abbrev cX10_rule : ByteArray := prog_1_method_6_code
def yX10_rule : MethodName := ⟨RX10, "rule", "(I)I"⟩
abbrev cX10_stretch : ByteArray := prog_1_method_7_code
def yX10_stretch : MethodName := ⟨RX10, "stretch", "(II)I"⟩
abbrev cX10_bearer : ByteArray := prog_1_method_8_code
def yX10_bearer : MethodName := ⟨RX10, "bearer", "(II)I"⟩
abbrev cX10_start : ByteArray := prog_1_method_9_code
def yX10_start : MethodName := ⟨RX10, "start", "(I)I"⟩
abbrev cX10_noise : ByteArray := prog_1_method_10_code
def yX10_noise : MethodName := ⟨RX10, "noise", "(II)I"⟩
abbrev cX10_cold : ByteArray := prog_1_method_11_code
def yX10_cold : MethodName := ⟨RX10, "cold", "(II)I"⟩
abbrev cX10_step : ByteArray := prog_1_method_12_code
def yX10_step : MethodName := ⟨RX10, "step", "(II)I"⟩
abbrev cX10_warm : ByteArray := prog_1_method_13_code
def yX10_warm : MethodName := ⟨RX10, "warm", "(II)I"⟩
abbrev cX10_put : ByteArray := prog_1_method_14_code
def yX10_put : MethodName := ⟨RX10, "put", "(II)I"⟩
abbrev cX10_change : ByteArray := prog_1_method_15_code
def yX10_change : MethodName := ⟨RX10, "change", "([III)I"⟩
abbrev cX10_harm : ByteArray := prog_1_method_16_code
def yX10_harm : MethodName := ⟨RX10, "harm", "(III)I"⟩
abbrev cX10_wakes : ByteArray := prog_1_method_17_code
def yX10_wakes : MethodName := ⟨RX10, "wakes", "(I)J"⟩
abbrev cX10_awake : ByteArray := prog_1_method_18_code
def yX10_awake : MethodName := ⟨RX10, "awake", "(II)J"⟩
abbrev cX10_depth : ByteArray := prog_1_method_19_code
def yX10_depth : MethodName := ⟨RX10, "depth", "(III)J"⟩
abbrev cX10_best : ByteArray := prog_1_method_20_code
def yX10_best : MethodName := ⟨RX10, "best", "(I)J"⟩
abbrev cX10_next : ByteArray := prog_1_method_21_code
def yX10_next : MethodName := ⟨RX10, "next", "(III)I"⟩
abbrev cX10_without : ByteArray := prog_1_method_22_code
def yX10_without : MethodName := ⟨RX10, "without", "(II)J"⟩
abbrev cX10_quiet : ByteArray := prog_1_method_23_code
def yX10_quiet : MethodName := ⟨RX10, "quiet", "(II)J"⟩
abbrev cX10_stopNoises : ByteArray := prog_1_method_24_code
def yX10_stopNoises : MethodName := ⟨RX10, "stopNoises", "(I)V"⟩
abbrev cX10_drop : ByteArray := prog_1_method_25_code
def yX10_drop : MethodName := ⟨RX10, "drop", "(I)J"⟩
abbrev cX10_swap : ByteArray := prog_1_method_26_code
def yX10_swap : MethodName := ⟨RX10, "swap", "(I)J"⟩
abbrev cX10_carry : ByteArray := prog_1_method_27_code
def yX10_carry : MethodName := ⟨RX10, "carry", "(II)I"⟩
abbrev cX10_learn : ByteArray := prog_1_method_28_code
def yX10_learn : MethodName := ⟨RX10, "learn", "(IIII)I"⟩
abbrev cX10_forget : ByteArray := prog_1_method_29_code
def yX10_forget : MethodName := ⟨RX10, "forget", "(I)I"⟩
abbrev cX10_steps : ByteArray := prog_1_method_30_code
def yX10_steps : MethodName := ⟨RX10, "steps", "(II)I"⟩
abbrev cX10_mark : ByteArray := prog_1_method_31_code
def yX10_mark : MethodName := ⟨RX10, "mark", "(II)I"⟩
abbrev cX10_wipe : ByteArray := prog_1_method_32_code
def yX10_wipe : MethodName := ⟨RX10, "wipe", "(I)I"⟩
abbrev cX10_paths : ByteArray := prog_1_method_33_code
def yX10_paths : MethodName := ⟨RX10, "paths", "()I"⟩
abbrev cX10_eye : ByteArray := prog_1_method_34_code
def yX10_eye : MethodName := ⟨RX10, "eye", "(I)I"⟩
abbrev cX10_sure : ByteArray := prog_1_method_35_code
def yX10_sure : MethodName := ⟨RX10, "sure", "(I)I"⟩
abbrev cX10_keep : ByteArray := prog_1_method_36_code
def yX10_keep : MethodName := ⟨RX10, "keep", "(I)I"⟩
abbrev cX10_back : ByteArray := prog_1_method_37_code
def yX10_back : MethodName := ⟨RX10, "back", "(I)I"⟩
abbrev cX10_sheet : ByteArray := prog_1_method_38_code
def yX10_sheet : MethodName := ⟨RX10, "sheet", "(III)I"⟩
abbrev cX10_lay : ByteArray := prog_1_method_39_code
def yX10_lay : MethodName := ⟨RX10, "lay", "(III)I"⟩
abbrev cX10_read : ByteArray := prog_1_method_40_code
def yX10_read : MethodName := ⟨RX10, "read", "(IIII)I"⟩
abbrev cX10_torn : ByteArray := prog_1_method_41_code
def yX10_torn : MethodName := ⟨RX10, "torn", "()I"⟩
abbrev cX10_count : ByteArray := prog_1_method_42_code
def yX10_count : MethodName := ⟨RX10, "count", "(I)I"⟩
abbrev cX10_isFractionPart : ByteArray := prog_1_method_43_code
def yX10_isFractionPart : MethodName := ⟨RX10, "isFractionPart", "(I)Z"⟩
abbrev cX10_isAnswerPart : ByteArray := prog_1_method_44_code
def yX10_isAnswerPart : MethodName := ⟨RX10, "isAnswerPart", "(I)Z"⟩
abbrev cX10_isDepth : ByteArray := prog_1_method_45_code
def yX10_isDepth : MethodName := ⟨RX10, "isDepth", "(I)Z"⟩
abbrev cX10_isImage : ByteArray := prog_1_method_46_code
def yX10_isImage : MethodName := ⟨RX10, "isImage", "(I)Z"⟩
abbrev cX10_fraction : ByteArray := prog_1_method_47_code
def yX10_fraction : MethodName := ⟨RX10, "fraction", "(JJI)J"⟩
abbrev cX10_commonDivisor : ByteArray := prog_1_method_48_code
def yX10_commonDivisor : MethodName := ⟨RX10, "commonDivisor", "(JJ)J"⟩
def RX11 : String := "AsleepPassModel"
def TX11 : u_T := fun k => match k with
  | 0 => ("AsleepPassModel", "state", "[I", true)
  | 1 => ("AsleepPassModel", "stretchMany", "I", false)
  | 2 => ("AsleepPassModel", "bearerMany", "I", false)
  | 3 => ("AsleepPassModel", "readPage", "[I", true)
  | 4 => ("AsleepPassModel", "readStretches", "I", false)
  | 5 => ("AsleepPassModel", "readBearers", "I", false)
  | 6 => ("AsleepPassModel", "hasStart", "Z", false)
  | 7 => ("AsleepPassModel", "carried", "I", false)
  | 8 => ("AsleepPassModel", "highStretch", "I", false)
  | 9 => ("AsleepPassModel", "highBearer", "I", false)
  | 10 => ("AsleepPassModel", "tape", "[I", true)
  | 11 => ("AsleepPassModel", "taped", "I", false)
  | 12 => ("AsleepPassModel", "fault", "I", false)
  | 13 => ("AsleepPassModel", "broken", "I", false)
  | 14 => ("AsleepPassModel", "brokenAt", "I", false)
  | 15 => ("AsleepPassModel", "spot", "I", false)
  | 16 => ("AsleepPassModel", "here", "I", false)
  | 17 => ("AsleepPassModel", "token", "I", false)
  | 18 => ("AsleepPassModel", "value", "I", false)
  | 19 => ("AsleepPassModel", "cuts", "[I", true)
  | 20 => ("AsleepPassModel", "letters", "[I", true)
  | 21 => ("AsleepPassModel", "odds", "[J", true)
  | 22 => ("AsleepPassModel", "then", "[J", true)
  | 23 => ("AsleepPassModel", "bests", "[J", true)
  | 24 => ("AsleepPassModel", "learnt", "[I", true)
  | 25 => ("AsleepPassModel", "learntMany", "I", false)
  | 26 => ("AsleepPassModel", "marks", "[I", true)
  | 27 => ("AsleepPassModel", "markMany", "I", false)
  | 28 => ("AsleepPassModel", "ahead", "[I", true)
  | 29 => ("AsleepPassModel", "behind", "[I", true)
  | 30 => ("AsleepPassModel", "isKept", "[Z", true)
  | 31 => ("AsleepPassModel", "lanes", "[I", true)
  | 32 => ("AsleepPassModel", "lengths", "[I", true)
  | 33 => ("AsleepPassModel", "cells", "[I", true)
  | _ => ("AsleepPassModel", "torn", "I", false)
def tyX11 : Nat → FieldType := fun k => match k with
  | 0 => .array .int
  | 1 => .int
  | 2 => .int
  | 3 => .array .int
  | 4 => .int
  | 5 => .int
  | 6 => .boolean
  | 7 => .int
  | 8 => .int
  | 9 => .int
  | 10 => .array .int
  | 11 => .int
  | 12 => .int
  | 13 => .int
  | 14 => .int
  | 15 => .int
  | 16 => .int
  | 17 => .int
  | 18 => .int
  | 19 => .array .int
  | 20 => .array .int
  | 21 => .array .long
  | 22 => .array .long
  | 23 => .array .long
  | 24 => .array .int
  | 25 => .int
  | 26 => .array .int
  | 27 => .int
  | 28 => .array .int
  | 29 => .array .int
  | 30 => .array .boolean
  | 31 => .array .int
  | 32 => .array .int
  | 33 => .array .int
  | _ => .int
theorem nmX11 : ∀ a, a < 35 → ∀ b, b < 35 → a ≠ b → (TX11 a).2.1 ≠ (TX11 b).2.1 := by decide +kernel
theorem tyX11_ok : ∀ k, k < 35 → parseFieldDescriptor (TX11 k).2.2.1 = some (tyX11 k) := by decide +kernel
abbrev cX11_init : ByteArray := prog_13_method_1_code
def yX11_init : MethodName := ⟨RX11, "<init>", "()V"⟩
abbrev cX11_in : ByteArray := prog_13_method_3_code
def yX11_in : MethodName := ⟨RX11, "in", "(JJJ)Z"⟩
abbrev cX11_feed : ByteArray := prog_13_method_4_code
def yX11_feed : MethodName := ⟨RX11, "feed", "(J)I"⟩
abbrev cX11_end : ByteArray := prog_13_method_5_code
def yX11_end : MethodName := ⟨RX11, "end", "(I)I"⟩
abbrev cX11_byteAt : ByteArray := prog_13_method_6_code
def yX11_byteAt : MethodName := ⟨RX11, "byteAt", "(I)I"⟩
abbrev cX11_fails : ByteArray := prog_13_method_7_code
def yX11_fails : MethodName := ⟨RX11, "fails", "(I)V"⟩
abbrev cX11_nameHere : ByteArray := prog_13_method_8_code
def yX11_nameHere : MethodName := ⟨RX11, "nameHere", "()I"⟩
abbrev cX11_goesOn : ByteArray := prog_13_method_9_code
def yX11_goesOn : MethodName := ⟨RX11, "goesOn", "()V"⟩
abbrev cX11_other : ByteArray := prog_13_method_10_code
def yX11_other : MethodName := ⟨RX11, "other", "(III)I"⟩
abbrev cX11_readBearer : ByteArray := prog_13_method_11_code
def yX11_readBearer : MethodName := ⟨RX11, "readBearer", "()V"⟩
abbrev cX11_readMore : ByteArray := prog_13_method_12_code
def yX11_readMore : MethodName := ⟨RX11, "readMore", "(I)V"⟩
abbrev cX11_readLine : ByteArray := prog_13_method_13_code
def yX11_readLine : MethodName := ⟨RX11, "readLine", "()V"⟩
abbrev cX11_text : ByteArray := prog_13_method_14_code
def yX11_text : MethodName := ⟨RX11, "text", "()I"⟩
abbrev cX11_fault : ByteArray := prog_13_method_15_code
def yX11_fault : MethodName := ⟨RX11, "fault", "()I"⟩
abbrev cX11_isStretch : ByteArray := prog_13_method_16_code
def yX11_isStretch : MethodName := ⟨RX11, "isStretch", "(I)Z"⟩
abbrev cX11_isBearer : ByteArray := prog_13_method_17_code
def yX11_isBearer : MethodName := ⟨RX11, "isBearer", "(I)Z"⟩
abbrev cX11_startNow : ByteArray := prog_13_method_18_code
def yX11_startNow : MethodName := ⟨RX11, "startNow", "()I"⟩
abbrev cX11_rule : ByteArray := prog_13_method_19_code
def yX11_rule : MethodName := ⟨RX11, "rule", "(I)I"⟩
abbrev cX11_stretch : ByteArray := prog_13_method_20_code
def yX11_stretch : MethodName := ⟨RX11, "stretch", "(II)I"⟩
abbrev cX11_bearer : ByteArray := prog_13_method_21_code
def yX11_bearer : MethodName := ⟨RX11, "bearer", "(II)I"⟩
abbrev cX11_sets : ByteArray := prog_13_method_22_code
def yX11_sets : MethodName := ⟨RX11, "sets", "(ZII)I"⟩
abbrev cX11_start : ByteArray := prog_13_method_23_code
def yX11_start : MethodName := ⟨RX11, "start", "(I)I"⟩
abbrev cX11_noise : ByteArray := prog_13_method_24_code
def yX11_noise : MethodName := ⟨RX11, "noise", "(II)I"⟩
abbrev cX11_cold : ByteArray := prog_13_method_25_code
def yX11_cold : MethodName := ⟨RX11, "cold", "(II)I"⟩
abbrev cX11_step : ByteArray := prog_13_method_26_code
def yX11_step : MethodName := ⟨RX11, "step", "(II)I"⟩
abbrev cX11_warm : ByteArray := prog_13_method_27_code
def yX11_warm : MethodName := ⟨RX11, "warm", "(II)I"⟩
abbrev cX11_puts : ByteArray := prog_13_method_28_code
def yX11_puts : MethodName := ⟨RX11, "puts", "(II)I"⟩
abbrev cX11_put : ByteArray := prog_13_method_29_code
def yX11_put : MethodName := ⟨RX11, "put", "(II)I"⟩
abbrev cX11_kindOf : ByteArray := prog_13_method_30_code
def yX11_kindOf : MethodName := ⟨RX11, "kindOf", "(I)I"⟩
abbrev cX11_harmOf : ByteArray := prog_13_method_31_code
def yX11_harmOf : MethodName := ⟨RX11, "harmOf", "(IIIZ)I"⟩
abbrev cX11_canHarm : ByteArray := prog_13_method_32_code
def yX11_canHarm : MethodName := ⟨RX11, "canHarm", "(III)Z"⟩
abbrev cX11_harm : ByteArray := prog_13_method_33_code
def yX11_harm : MethodName := ⟨RX11, "harm", "(III)I"⟩
abbrev cX11_orderedHarm : ByteArray := prog_13_method_34_code
def yX11_orderedHarm : MethodName := ⟨RX11, "orderedHarm", "(IZ)I"⟩
abbrev cX11_power : ByteArray := prog_13_method_35_code
def yX11_power : MethodName := ⟨RX11, "power", "(I)J"⟩
abbrev cX11_deeper : ByteArray := prog_13_method_36_code
def yX11_deeper : MethodName := ⟨RX11, "deeper", "(II)I"⟩
abbrev cX11_layOdds : ByteArray := prog_13_method_37_code
def yX11_layOdds : MethodName := ⟨RX11, "layOdds", "(III)V"⟩
abbrev cX11_lowest : ByteArray := prog_13_method_38_code
def yX11_lowest : MethodName := ⟨RX11, "lowest", "(JJI)J"⟩
abbrev cX11_wakes : ByteArray := prog_13_method_39_code
def yX11_wakes : MethodName := ⟨RX11, "wakes", "(I)J"⟩
abbrev cX11_awake : ByteArray := prog_13_method_40_code
def yX11_awake : MethodName := ⟨RX11, "awake", "(II)J"⟩
abbrev cX11_depth : ByteArray := prog_13_method_41_code
def yX11_depth : MethodName := ⟨RX11, "depth", "(III)J"⟩
abbrev cX11_bestAt : ByteArray := prog_13_method_42_code
def yX11_bestAt : MethodName := ⟨RX11, "bestAt", "(III)I"⟩
abbrev cX11_byOne : ByteArray := prog_13_method_43_code
def yX11_byOne : MethodName := ⟨RX11, "byOne", "(IIII)J"⟩
abbrev cX11_layBest : ByteArray := prog_13_method_44_code
def yX11_layBest : MethodName := ⟨RX11, "layBest", "(I)V"⟩
abbrev cX11_best : ByteArray := prog_13_method_45_code
def yX11_best : MethodName := ⟨RX11, "best", "(I)J"⟩
abbrev cX11_next : ByteArray := prog_13_method_46_code
def yX11_next : MethodName := ⟨RX11, "next", "(III)I"⟩
abbrev cX11_without : ByteArray := prog_13_method_47_code
def yX11_without : MethodName := ⟨RX11, "without", "(II)J"⟩
abbrev cX11_bitsOf : ByteArray := prog_13_method_48_code
def yX11_bitsOf : MethodName := ⟨RX11, "bitsOf", "(I)I"⟩
abbrev cX11_quiet : ByteArray := prog_13_method_49_code
def yX11_quiet : MethodName := ⟨RX11, "quiet", "(II)J"⟩
abbrev cX11_drop : ByteArray := prog_13_method_50_code
def yX11_drop : MethodName := ⟨RX11, "drop", "(I)J"⟩
abbrev cX11_changes : ByteArray := prog_13_method_51_code
def yX11_changes : MethodName := ⟨RX11, "changes", "(II)V"⟩
abbrev cX11_swap : ByteArray := prog_13_method_52_code
def yX11_swap : MethodName := ⟨RX11, "swap", "(I)J"⟩
abbrev cX11_carry : ByteArray := prog_13_method_53_code
def yX11_carry : MethodName := ⟨RX11, "carry", "(II)I"⟩
abbrev cX11_learn : ByteArray := prog_13_method_54_code
def yX11_learn : MethodName := ⟨RX11, "learn", "(IIII)I"⟩
abbrev cX11_forget : ByteArray := prog_13_method_55_code
def yX11_forget : MethodName := ⟨RX11, "forget", "(I)I"⟩
abbrev cX11_steps : ByteArray := prog_13_method_56_code
def yX11_steps : MethodName := ⟨RX11, "steps", "(II)I"⟩
abbrev cX11_mark : ByteArray := prog_13_method_57_code
def yX11_mark : MethodName := ⟨RX11, "mark", "(II)I"⟩
abbrev cX11_wipe : ByteArray := prog_13_method_58_code
def yX11_wipe : MethodName := ⟨RX11, "wipe", "(I)I"⟩
abbrev cX11_isMarked : ByteArray := prog_13_method_59_code
def yX11_isMarked : MethodName := ⟨RX11, "isMarked", "(II)Z"⟩
abbrev cX11_depthThen : ByteArray := prog_13_method_60_code
def yX11_depthThen : MethodName := ⟨RX11, "depthThen", "(IIZ)I"⟩
abbrev cX11_layPaths : ByteArray := prog_13_method_61_code
def yX11_layPaths : MethodName := ⟨RX11, "layPaths", "()V"⟩
abbrev cX11_onward : ByteArray := prog_13_method_62_code
def yX11_onward : MethodName := ⟨RX11, "onward", "(IIZ)I"⟩
abbrev cX11_paths : ByteArray := prog_13_method_63_code
def yX11_paths : MethodName := ⟨RX11, "paths", "()I"⟩
abbrev cX11_eye : ByteArray := prog_13_method_64_code
def yX11_eye : MethodName := ⟨RX11, "eye", "(I)I"⟩
abbrev cX11_sure : ByteArray := prog_13_method_65_code
def yX11_sure : MethodName := ⟨RX11, "sure", "(I)I"⟩
abbrev cX11_copies : ByteArray := prog_13_method_66_code
def yX11_copies : MethodName := ⟨RX11, "copies", "(II)V"⟩
abbrev cX11_keep : ByteArray := prog_13_method_67_code
def yX11_keep : MethodName := ⟨RX11, "keep", "(I)I"⟩
abbrev cX11_back : ByteArray := prog_13_method_68_code
def yX11_back : MethodName := ⟨RX11, "back", "(I)I"⟩
abbrev cX11_sheet : ByteArray := prog_13_method_69_code
def yX11_sheet : MethodName := ⟨RX11, "sheet", "(III)I"⟩
abbrev cX11_lay : ByteArray := prog_13_method_70_code
def yX11_lay : MethodName := ⟨RX11, "lay", "(III)I"⟩
abbrev cX11_read : ByteArray := prog_13_method_71_code
def yX11_read : MethodName := ⟨RX11, "read", "(IIII)I"⟩
abbrev cX11_torn : ByteArray := prog_13_method_72_code
def yX11_torn : MethodName := ⟨RX11, "torn", "()I"⟩
abbrev cX11_count : ByteArray := prog_13_method_73_code
def yX11_count : MethodName := ⟨RX11, "count", "(I)I"⟩
def RJ6 : String := "java/lang/Integer"
abbrev cJ6_bitCount_0f7a4 : ByteArray := prog_14_method_49_code
def yJ6_bitCount_0f7a4 : MethodName := ⟨RJ6, "bitCount", "(I)I"⟩
def RJ9 : String := "java/lang/Math"
abbrev cJ9_abs_0f7a4 : ByteArray := prog_15_method_59_code
def yJ9_abs_0f7a4 : MethodName := ⟨RJ9, "abs", "(I)I"⟩
abbrev cJ9_max_7cf53 : ByteArray := prog_15_method_65_code
def yJ9_max_7cf53 : MethodName := ⟨RJ9, "max", "(II)I"⟩
abbrev cJ9_min_7cf53 : ByteArray := prog_15_method_69_code
def yJ9_min_7cf53 : MethodName := ⟨RJ9, "min", "(II)I"⟩
def RJ0 : String := "java/lang/String"
abbrev cJ0_length_8abf5 : ByteArray := prog_16_method_54_code
def yJ0_length_8abf5 : MethodName := ⟨RJ0, "length", "()I"⟩
abbrev cJ0_charAt_5068e : ByteArray := prog_16_method_56_code
def yJ0_charAt_5068e : MethodName := ⟨RJ0, "charAt", "(I)C"⟩
abbrev cJ0_coder_7d493 : ByteArray := prog_16_method_152_code
def yJ0_coder_7d493 : MethodName := ⟨RJ0, "coder", "()B"⟩
abbrev cJ0_isLatin1_aae02 : ByteArray := prog_16_method_154_code
def yJ0_isLatin1_aae02 : MethodName := ⟨RJ0, "isLatin1", "()Z"⟩
abbrev cJ0_checkIndex_df160 : ByteArray := prog_16_method_155_code
def yJ0_checkIndex_df160 : MethodName := ⟨RJ0, "checkIndex", "(II)V"⟩
def RJ1 : String := "java/lang/StringLatin1"
abbrev cJ1_charAt_3b067 : ByteArray := prog_17_method_2_code
def yJ1_charAt_3b067 : MethodName := ⟨RJ1, "charAt", "([BI)C"⟩
def RJ3 : String := "jdk/internal/util/Preconditions"
abbrev cJ3_checkIndex_8e157 : ByteArray := prog_20_method_11_code
def yJ3_checkIndex_8e157 : MethodName := ⟨RJ3, "checkIndex", "(IILjava/util/function/BiFunction;)I"⟩
def RL : String := "AsleepPassLaw"
abbrev cL_law : ByteArray := code
abbrev vwCl : List vw_C := [(RX0, TX0, 3), (RX1, TX1, 3), (RX2, TX2, 5), (RX3, TX3, 3), (RX4, TX4, 3), (RX5, TX5, 12), (RX6, TX6, 7), (RX7, TX7, 2), (RX8, TX8, 3), (RX9, TX9, 9), (RX10, TX10, 14), (RX11, TX11, 35)]

def va_AOA (ty : FieldType) (U : State) : Prop := (Cond.arrayOver (.array ty)).before #[] U = true
theorem va_AOA.use {ty : FieldType} {A : Array Value} {U : State} (h : va_AOA ty U) : (Cond.arrayOver (.array ty)).before A U = true := h
/-! ===== BEGIN new T[n][m]: the outer array a place, the inner ones among the pooled ===== -/
/-- f, but v at every address of l -/
def vr_up {α : Type} (f : Nat → α) (l : List Nat) (v : α) : Nat → α := fun a => if a ∈ l then v else f a
theorem vr_up_in {α : Type} {f : Nat → α} {l : List Nat} {v : α} {a : Nat} (h : a ∈ l) : vr_up f l v a = v := if_pos h
theorem vr_up_ne {α : Type} {f : Nat → α} {l : List Nat} {v : α} {a : Nat} (h : a ∉ l) : vr_up f l v a = f a := if_neg h
theorem vr_rows {L l : List Nat} {f : Nat → va_E} {e : va_E} (h : ∀ a, a ∈ l → a ∉ L) : va_pl L f ++ l.map (fun a => (a, e)) = va_pl (L ++ l) (vr_up f l e) := by
  unfold va_pl
  rw [List.map_append]
  congr 1
  · apply List.map_congr_left
    intro a ha
    rw [vr_up_ne (fun q => h a q ha)]
  · apply List.map_congr_left
    intro a ha
    rw [vr_up_in ha]
theorem vr_lay {X rows : va_W} {x : Nat × va_E} {pl : va_W} {D : va_G} {cl : List vw_C} {H : Heap} (hP : va_P D cl (((X ++ pl) ++ [x]) ++ rows) H) : va_P D cl ((X ++ [x]) ++ (pl ++ rows)) H := by
  rw [List.append_assoc (X ++ pl)] at hP
  have h := va_P.swap hP
  rw [← List.append_assoc X] at h
  have h2 := va_P.swap h
  rw [List.append_assoc (X ++ [x])] at h2
  exact h2
theorem vr_layD {X rows : va_W} {x : Nat × va_E} {pl : va_W} {A : Nat → Prop} (hD : va_D A (((X ++ pl) ++ [x]) ++ rows)) : va_D A ((X ++ [x]) ++ (pl ++ rows)) := by
  rw [List.append_assoc (X ++ pl)] at hD
  have h := va_D.swap hD
  rw [← List.append_assoc X] at h
  have h2 := va_D.swap h
  rw [List.append_assoc (X ++ [x])] at h2
  exact h2
theorem vr_outer (c : ClassId) (N h0 : Nat) : ∀ i : Nat, Jvm.Free.Multi.outerC c N h0 i = arrV c N (fun j => va_rf (if j < i then some (h0 + 1 + j) else none))
  | 0 => by
    show ({ cls := c, slots := Array.replicate N .null, vm := .none } : Cell) = _
    rw [arrV_new]
    refine congrArg (arrV c N) (funext fun j => ?_)
    simp [va_rf]
  | i + 1 => by
    show (Jvm.Free.Multi.outerC c N h0 i).setSlot i (.ref (h0 + 1 + i)) = _
    rw [vr_outer c N h0 i, arrV_store]
    refine congrArg (arrV c N) (funext fun j => ?_)
    by_cases e : j = i
    · subst e
      simp [updV, va_rf]
    · by_cases h : j < i
      · simp [updV, e, h, Nat.lt_succ_of_lt h]
      · simp [updV, e, h, show ¬ j < i + 1 by omega]
section VGM
variable {p : Program} {l : Launch} {e : Env} {R : Room} {s : State} {m : MethodId} {args : Array Value} {below : List Frame} {meth : Method} {c : Code} {H : Heap} {locs : List Loc} {cells slots : Nat} {Q : State → Prop}
variable {cc : ByteArray} {pc : Nat} {ls : Array Slot} {rest : List Value} {D : va_G} {cl : List vw_C} {A : Nat → Prop} {a : Nat} {tys : List (ClassId × FieldType)} {ws : va_W} {H0 : Heap}
theorem va_mna {X : va_W} {L : List Nat} {f : Nat → va_E} {cc : ByteArray} (hexec : p.tables.exec = Jvm.exec) (hb : c.code = cc) {own : String} {index : Nat} {ty : FieldType} {cy : ClassId} (hown : s.vm.findClass own = some m.cls) (hclink : (Cond.classLink own index ("[" ++ (FieldType.array ty).toString)).before args s = true) (hover : va_AOA ty s) (harr : (Cond.arrayClass ty).before args s = true) (hcy : s.vm.findClass (FieldType.array ty).toString = some cy)
    (hK : va_K D cl tys s) (hP : va_P D cl (X ++ va_pl L f) H) (hD : va_D A (X ++ va_pl L f)) (hS : va_S A H0 H locs) (hA : ∀ q, H0.size ≤ q → A q) {n k : Int32} {N' K' : Nat} {z : vp_A} (hn : ¬ n < 0) (hk : ¬ k < 0) (hN : n.toNatClampNeg = N') (hM : k.toNatClampNeg = K')
    (hb1 : N' * 4 ≤ 536870912) (hb2 : K' * componentBytes ty ≤ 536870912) (hb3 : K' ≤ 536870912) (hdf : fits ty (defaultValue ty) = true) (hdd : (defaultValue ty).isDefault = true) (hcells : cells + (1 + N') ≤ R.cells) (hslots : slots + (N' + N' * K') ≤ R.slots) (hz : ∀ c : ClassId, Jvm.Free.Multi.innerC c K' (defaultValue ty) = vp_cell c z) (hdg : decode cc pc = .ok (.multianewarray index 2, 4))
    (kk : ∀ (q : Nat) (r : Nat → Nat) (cA : ClassId) (H1 : Heap), (∀ i j : Nat, i < N' → j < N' → r i = r j → i = j) → (∀ i : Nat, i < N' → r i ∉ L) → va_K D cl (tys ++ [(cA, .array ty)]) s →
      va_P D cl ((X ++ [(q, .inl (cA, N', .inr (.inr (.inr (.inr (fun i => if i < N' then some (r i) else none))))))]) ++ va_pl (L ++ (List.range N').map r) (vr_up f ((List.range N').map r) (.inl (cy, z)))) H1 → va_D A ((X ++ [(q, .inl (cA, N', .inr (.inr (.inr (.inr (fun i => if i < N' then some (r i) else none))))))]) ++ va_pl (L ++ (List.range N').map r) (vr_up f ((List.range N').map r) (.inl (cy, z)))) → va_S A H0 H1 locs →
      W p l e R s m args below meth c H1 locs (cells + 1 + N') (slots + N' + N' * K') Q (F0 m (pc + 4) ls (.ref q :: rest))) : W p l e R s m args below meth c H locs cells slots Q (F0 m pc ls (.int k :: .int n :: rest)) := by
  subst hN
  subst hM
  intro T hT Xs
  obtain ⟨vm₁, cA, comp, -, fA, fC, hO, -, X', step⟩ := Xs.multianewarray2F hexec hown hclink (va_AOA.use hover) harr (g := F0 m pc ls (.int k :: .int n :: rest)) rfl (by rw [hb]; exact hdg) rfl hn hk hb1 hb2 hb3 hdf hdd hcells hslots
  have ec : some cy = some comp := hcy.symm.trans fC
  cases ec
  generalize hF : Jvm.Free.Multi.fill (T.setVm vm₁) cA cy n.toNatClampNeg k.toNatClampNeg (defaultValue ty) n.toNatClampNeg = F at X' step
  have hTh : (T.setVm vm₁).heap = H := hT
  obtain ⟨f1, f2, -, -⟩ := Jvm.Free.Multi.fill_facts (T.setVm vm₁) cA cy n.toNatClampNeg k.toNatClampNeg (defaultValue ty) n.toNatClampNeg
  rw [hF, hTh] at f1 f2
  have hold : ∀ x : Nat, x < H.size → F.heap[x]? = H[x]? := fun x hx => by
    have := Jvm.Free.Multi.fill_old (T.setVm vm₁) cA cy n.toNatClampNeg k.toNatClampNeg (defaultValue ty) (a := x) (by rw [hTh]; exact hx) n.toNatClampNeg
    rw [hF, hTh] at this
    exact this
  have hrow : ∀ j : Nat, j < n.toNatClampNeg → F.heap[H.size + 1 + j]? = some (vp_cell cy z) := fun j hj => by
    have := Jvm.Free.Multi.fill_inner (T.setVm vm₁) cA cy n.toNatClampNeg k.toNatClampNeg (defaultValue ty) n.toNatClampNeg j hj
    rw [hF, hTh, hz] at this
    exact this
  have hout : Jvm.Free.Multi.outerC cA n.toNatClampNeg H.size n.toNatClampNeg = vp_cell cA (n.toNatClampNeg, .inr (.inr (.inr (.inr (fun i => if i < n.toNatClampNeg then some (H.size + 1 + i) else none))))) := by
    rw [vp_cell_q]
    exact vr_outer cA n.toNatClampNeg H.size n.toNatClampNeg
  rw [hout] at f2
  have hlt : ∀ a, a ∈ L → a < H.size := fun a ha => by
    obtain ⟨k9, hk9⟩ := va_pl_get (X := X) (f := f) ha
    exact (hP k9 _ hk9).lt
  have hnl : ∀ i : Nat, i < n.toNatClampNeg → H.size + 1 + i ∉ L := fun i _ h => by
    have := hlt _ h
    omega
  have hnm : ∀ a, a ∈ (List.range n.toNatClampNeg).map (fun i => H.size + 1 + i) → a ∉ L := fun a ha h => by
    obtain ⟨i, -, rfl⟩ := List.mem_map.mp ha
    have := hlt _ h
    omega
  have hP0 : va_P D cl (X ++ va_pl L f) F.heap := hP.kept (fun k9 x hx => hold x.1 ((hP k9 x hx).lt))
  have hP1 : va_P D cl ((X ++ va_pl L f) ++ [(H.size, .inl (cA, n.toNatClampNeg, .inr (.inr (.inr (.inr (fun i => if i < n.toNatClampNeg then some (H.size + 1 + i) else none))))))]) F.heap := hP0.app (fun k9 x hx => by
    have h0 : k9 < 1 := (List.getElem?_eq_some_iff.mp hx).1
    rw [show k9 = 0 by omega] at hx
    cases hx
    exact f2)
  have hP2 : va_P D cl (((X ++ va_pl L f) ++ [(H.size, .inl (cA, n.toNatClampNeg, .inr (.inr (.inr (.inr (fun i => if i < n.toNatClampNeg then some (H.size + 1 + i) else none))))))]) ++ ((List.range n.toNatClampNeg).map (fun i => H.size + 1 + i)).map (fun a => (a, .inl (cy, z)))) F.heap := hP1.app (fun k9 x hx => by
    obtain ⟨a, ha, rfl⟩ := List.mem_map.mp (List.mem_of_getElem? hx)
    obtain ⟨i, hi, rfl⟩ := List.mem_map.mp ha
    exact hrow i (List.mem_range.mp hi))
  have hD2 : va_D A (((X ++ va_pl L f) ++ [(H.size, .inl (cA, n.toNatClampNeg, .inr (.inr (.inr (.inr (fun i => if i < n.toNatClampNeg then some (H.size + 1 + i) else none))))))]) ++ ((List.range n.toNatClampNeg).map (fun i => H.size + 1 + i)).map (fun a => (a, .inl (cy, z)))) := by
    have hD1 := hD.push (e := .inl (cA, n.toNatClampNeg, .inr (.inr (.inr (.inr (fun i => if i < n.toNatClampNeg then some (H.size + 1 + i) else none)))))) hP rfl (hA _ hS.1)
    generalize hW1 : (X ++ va_pl L f) ++ [(H.size, .inl (cA, n.toNatClampNeg, .inr (.inr (.inr (.inr (fun i => if i < n.toNatClampNeg then some (H.size + 1 + i) else none))))))] = W1 at hD1 hP1 ⊢
    have hle : ∀ (k9 : Nat) (x : Nat × va_E), W1[k9]? = some x → x.1 ≤ H.size := fun k9 x hx => by
      rw [← hW1] at hx
      by_cases hl : k9 < (X ++ va_pl L f).length
      · rw [List.getElem?_append_left hl] at hx
        exact Nat.le_of_lt ((hP k9 x hx).lt)
      · rw [List.getElem?_append_right (by omega)] at hx
        have h0 : k9 - (X ++ va_pl L f).length < 1 := (List.getElem?_eq_some_iff.mp hx).1
        rw [show k9 - (X ++ va_pl L f).length = 0 by omega] at hx
        cases hx
        exact Nat.le_refl _
    have hr : ∀ (k9 : Nat) (x : Nat × va_E), (((List.range n.toNatClampNeg).map (fun i => H.size + 1 + i)).map (fun a => ((a, .inl (cy, z)) : Nat × va_E)))[k9]? = some x → x.1 = H.size + 1 + k9 := fun k9 x hx => by
      rw [List.getElem?_map, List.getElem?_map] at hx
      by_cases h9 : k9 < n.toNatClampNeg
      · rw [List.getElem?_range h9] at hx
        cases hx
        rfl
      · have hn0 : (List.range n.toNatClampNeg)[k9]? = none := List.getElem?_eq_none (by rw [List.length_range]; omega)
        rw [hn0] at hx
        cases hx
    refine ⟨fun i j x y hi hj hxy => ?_, fun k9 x hx => ?_⟩
    · by_cases h1 : i < W1.length <;> by_cases h2 : j < W1.length
      · rw [List.getElem?_append_left h1] at hi
        rw [List.getElem?_append_left h2] at hj
        exact hD1.1 i j x y hi hj hxy
      · rw [List.getElem?_append_left h1] at hi
        rw [List.getElem?_append_right (by omega)] at hj
        have := hle _ _ hi
        have := hr _ _ hj
        omega
      · rw [List.getElem?_append_right (by omega)] at hi
        rw [List.getElem?_append_left h2] at hj
        have := hle _ _ hj
        have := hr _ _ hi
        omega
      · rw [List.getElem?_append_right (by omega)] at hi hj
        have := hr _ _ hi
        have := hr _ _ hj
        omega
    · by_cases h1 : k9 < W1.length
      · rw [List.getElem?_append_left h1] at hx
        exact hD1.2 k9 x hx
      · rw [List.getElem?_append_right (by omega)] at hx
        have := hr _ _ hx
        exact hA _ (by have := hS.1; omega)
  have hAr : ArrOfT s cA (.array ty) := fun N9 z9 => by
    obtain ⟨-, k9, hk9, cm9, hkk9⟩ := (hO 0 0 0).1
    exact ⟨(fun q hq => by cases hq), k9, hk9, cm9, hkk9⟩
  have hK2 : va_K D cl (tys ++ [(cA, .array ty)]) s := ⟨hK.1, fun k9 x hx => by
    by_cases hl : k9 < tys.length
    · rw [List.getElem?_append_left hl] at hx
      exact hK.2 k9 x hx
    · rw [List.getElem?_append_right (by omega)] at hx
      have h0 : k9 - tys.length < 1 := (List.getElem?_eq_some_iff.mp hx).1
      rw [show k9 - tys.length = 0 by omega] at hx
      cases hx
      exact ⟨hAr, fA⟩⟩
  obtain ⟨t, a1, b1⟩ := kk H.size (fun i => H.size + 1 + i) cA F.heap (fun i j _ _ h => by have h9 : H.size + 1 + i = H.size + 1 + j := h; omega) hnl hK2 (by rw [← vr_rows hnm]; exact vr_lay hP2) (by rw [← vr_rows hnm]; exact vr_layD hD2) ⟨by rw [f1]; have := hS.1; omega, fun x h1 h2 => (hold x (Nat.lt_of_lt_of_le h1 hS.1)).trans (hS.2.1 x h1 h2), hS.2.2⟩ F rfl X'
  refine ⟨t, step t ?_, b1⟩
  have e : T.heap.size = H.size := by rw [hT]
  rw [e]
  exact a1
end VGM
/-! END multi -/
