-- ===== PART A: goes FIRST, ahead of the names: the tables' words, and 'selects' of the private methods out of them =====
/-- a private method of a class that the tables say can be made, by its rows of tables_1 -/
def lw_okq (q : MethodName × Nat) : Prop := (q.1.cls ≠ "java/lang/invoke/MethodHandle" ∧ q.1.cls ≠ "java/lang/invoke/VarHandle") ∧ Cond.instantiable q.1.cls q.2 ∈ tables_1 ∧ Cond.privateMethod q.1 ∈ tables_1 ∧ Cond.instanceMethod q.1 ∈ tables_1
theorem lw_p0 : lw_okq (⟨"AsleepPass$Tape", "addBytes", "(J)Z"⟩, 2) := ⟨⟨by decide +kernel, by decide +kernel⟩, List.mem_of_getElem? (i := 35) (by decide +kernel), List.mem_of_getElem? (i := 350) (by decide +kernel), List.mem_of_getElem? (i := 351) (by decide +kernel)⟩
theorem lw_p1 : lw_okq (⟨"AsleepPass$Reader", "readAll", "()V"⟩, 12) := ⟨⟨by decide +kernel, by decide +kernel⟩, List.mem_of_getElem? (i := 29) (by decide +kernel), List.mem_of_getElem? (i := 363) (by decide +kernel), List.mem_of_getElem? (i := 364) (by decide +kernel)⟩
theorem lw_p2 : lw_okq (⟨"AsleepPass$Reader", "begin", "()V"⟩, 12) := ⟨⟨by decide +kernel, by decide +kernel⟩, List.mem_of_getElem? (i := 29) (by decide +kernel), List.mem_of_getElem? (i := 367) (by decide +kernel), List.mem_of_getElem? (i := 368) (by decide +kernel)⟩
theorem lw_p3 : lw_okq (⟨"AsleepPass$Way", "clear", "()V"⟩, 9) := ⟨⟨by decide +kernel, by decide +kernel⟩, List.mem_of_getElem? (i := 51) (by decide +kernel), List.mem_of_getElem? (i := 371) (by decide +kernel), List.mem_of_getElem? (i := 372) (by decide +kernel)⟩
theorem lw_p4 : lw_okq (⟨"AsleepPass$Reader", "nextToken", "()Z"⟩, 12) := ⟨⟨by decide +kernel, by decide +kernel⟩, List.mem_of_getElem? (i := 29) (by decide +kernel), List.mem_of_getElem? (i := 375) (by decide +kernel), List.mem_of_getElem? (i := 376) (by decide +kernel)⟩
theorem lw_p5 : lw_okq (⟨"AsleepPass$Tape", "pastAll", "(ICC)I"⟩, 2) := ⟨⟨by decide +kernel, by decide +kernel⟩, List.mem_of_getElem? (i := 35) (by decide +kernel), List.mem_of_getElem? (i := 379) (by decide +kernel), List.mem_of_getElem? (i := 380) (by decide +kernel)⟩
theorem lw_p6 : lw_okq (⟨"AsleepPass$Tape", "byteAt", "(I)I"⟩, 2) := ⟨⟨by decide +kernel, by decide +kernel⟩, List.mem_of_getElem? (i := 35) (by decide +kernel), List.mem_of_getElem? (i := 383) (by decide +kernel), List.mem_of_getElem? (i := 384) (by decide +kernel)⟩
theorem lw_p7 : lw_okq (⟨"AsleepPass$Reader", "refuse", "(II)Z"⟩, 12) := ⟨⟨by decide +kernel, by decide +kernel⟩, List.mem_of_getElem? (i := 29) (by decide +kernel), List.mem_of_getElem? (i := 387) (by decide +kernel), List.mem_of_getElem? (i := 388) (by decide +kernel)⟩
theorem lw_p8 : lw_okq (⟨"AsleepPass$Reader", "readLine", "()Z"⟩, 12) := ⟨⟨by decide +kernel, by decide +kernel⟩, List.mem_of_getElem? (i := 29) (by decide +kernel), List.mem_of_getElem? (i := 391) (by decide +kernel), List.mem_of_getElem? (i := 392) (by decide +kernel)⟩
theorem lw_p9 : lw_okq (⟨"AsleepPass$Reader", "isName", "(Ljava/lang/String;)Z"⟩, 12) := ⟨⟨by decide +kernel, by decide +kernel⟩, List.mem_of_getElem? (i := 29) (by decide +kernel), List.mem_of_getElem? (i := 396) (by decide +kernel), List.mem_of_getElem? (i := 397) (by decide +kernel)⟩
theorem lw_p10 : lw_okq (⟨"AsleepPass$Tape", "says", "(IILjava/lang/String;)Z"⟩, 2) := ⟨⟨by decide +kernel, by decide +kernel⟩, List.mem_of_getElem? (i := 35) (by decide +kernel), List.mem_of_getElem? (i := 400) (by decide +kernel), List.mem_of_getElem? (i := 401) (by decide +kernel)⟩
theorem lw_p11 : lw_okq (⟨"AsleepPass$Reader", "readStart", "()Z"⟩, 12) := ⟨⟨by decide +kernel, by decide +kernel⟩, List.mem_of_getElem? (i := 29) (by decide +kernel), List.mem_of_getElem? (i := 452) (by decide +kernel), List.mem_of_getElem? (i := 453) (by decide +kernel)⟩
theorem lw_p12 : lw_okq (⟨"AsleepPass$Reader", "nextNumber", "(II)Z"⟩, 12) := ⟨⟨by decide +kernel, by decide +kernel⟩, List.mem_of_getElem? (i := 29) (by decide +kernel), List.mem_of_getElem? (i := 456) (by decide +kernel), List.mem_of_getElem? (i := 457) (by decide +kernel)⟩
theorem lw_p13 : lw_okq (⟨"AsleepPass$Reader", "value", "()I"⟩, 12) := ⟨⟨by decide +kernel, by decide +kernel⟩, List.mem_of_getElem? (i := 29) (by decide +kernel), List.mem_of_getElem? (i := 460) (by decide +kernel), List.mem_of_getElem? (i := 461) (by decide +kernel)⟩
theorem lw_p14 : lw_okq (⟨"AsleepPass$Reader", "nextStop", "()Z"⟩, 12) := ⟨⟨by decide +kernel, by decide +kernel⟩, List.mem_of_getElem? (i := 29) (by decide +kernel), List.mem_of_getElem? (i := 464) (by decide +kernel), List.mem_of_getElem? (i := 465) (by decide +kernel)⟩
theorem lw_p15 : lw_okq (⟨"AsleepPass$Reader", "readStretch", "()Z"⟩, 12) := ⟨⟨by decide +kernel, by decide +kernel⟩, List.mem_of_getElem? (i := 29) (by decide +kernel), List.mem_of_getElem? (i := 469) (by decide +kernel), List.mem_of_getElem? (i := 470) (by decide +kernel)⟩
def lw_privs_1 : List (MethodName × Nat) := [(⟨"AsleepPass$Tape", "addBytes", "(J)Z"⟩, 2), (⟨"AsleepPass$Reader", "readAll", "()V"⟩, 12), (⟨"AsleepPass$Reader", "begin", "()V"⟩, 12), (⟨"AsleepPass$Way", "clear", "()V"⟩, 9), (⟨"AsleepPass$Reader", "nextToken", "()Z"⟩, 12), (⟨"AsleepPass$Tape", "pastAll", "(ICC)I"⟩, 2), (⟨"AsleepPass$Tape", "byteAt", "(I)I"⟩, 2), (⟨"AsleepPass$Reader", "refuse", "(II)Z"⟩, 12), (⟨"AsleepPass$Reader", "readLine", "()Z"⟩, 12), (⟨"AsleepPass$Reader", "isName", "(Ljava/lang/String;)Z"⟩, 12), (⟨"AsleepPass$Tape", "says", "(IILjava/lang/String;)Z"⟩, 2), (⟨"AsleepPass$Reader", "readStart", "()Z"⟩, 12), (⟨"AsleepPass$Reader", "nextNumber", "(II)Z"⟩, 12), (⟨"AsleepPass$Reader", "value", "()I"⟩, 12), (⟨"AsleepPass$Reader", "nextStop", "()Z"⟩, 12), (⟨"AsleepPass$Reader", "readStretch", "()Z"⟩, 12)]
theorem lw_r1 : ∀ q ∈ lw_privs_1, lw_okq q := List.forall_mem_cons.mpr ⟨lw_p0, List.forall_mem_cons.mpr ⟨lw_p1, List.forall_mem_cons.mpr ⟨lw_p2, List.forall_mem_cons.mpr ⟨lw_p3, List.forall_mem_cons.mpr ⟨lw_p4, List.forall_mem_cons.mpr ⟨lw_p5, List.forall_mem_cons.mpr ⟨lw_p6, List.forall_mem_cons.mpr ⟨lw_p7, List.forall_mem_cons.mpr ⟨lw_p8, List.forall_mem_cons.mpr ⟨lw_p9, List.forall_mem_cons.mpr ⟨lw_p10, List.forall_mem_cons.mpr ⟨lw_p11, List.forall_mem_cons.mpr ⟨lw_p12, List.forall_mem_cons.mpr ⟨lw_p13, List.forall_mem_cons.mpr ⟨lw_p14, List.forall_mem_cons.mpr ⟨lw_p15, fun _ h => absurd h List.not_mem_nil⟩⟩⟩⟩⟩⟩⟩⟩⟩⟩⟩⟩⟩⟩⟩⟩
theorem lw_p16 : lw_okq (⟨"AsleepPass$Way", "addStretch", "(II)V"⟩, 9) := ⟨⟨by decide +kernel, by decide +kernel⟩, List.mem_of_getElem? (i := 51) (by decide +kernel), List.mem_of_getElem? (i := 473) (by decide +kernel), List.mem_of_getElem? (i := 474) (by decide +kernel)⟩
theorem lw_p17 : lw_okq (⟨"AsleepPass$Reader", "readBearer", "()Z"⟩, 12) := ⟨⟨by decide +kernel, by decide +kernel⟩, List.mem_of_getElem? (i := 29) (by decide +kernel), List.mem_of_getElem? (i := 478) (by decide +kernel), List.mem_of_getElem? (i := 479) (by decide +kernel)⟩
theorem lw_p18 : lw_okq (⟨"AsleepPass$Reader", "kind", "()I"⟩, 12) := ⟨⟨by decide +kernel, by decide +kernel⟩, List.mem_of_getElem? (i := 29) (by decide +kernel), List.mem_of_getElem? (i := 482) (by decide +kernel), List.mem_of_getElem? (i := 483) (by decide +kernel)⟩
theorem lw_p19 : lw_okq (⟨"AsleepPass$Way", "addBearer", "(III)V"⟩, 9) := ⟨⟨by decide +kernel, by decide +kernel⟩, List.mem_of_getElem? (i := 51) (by decide +kernel), List.mem_of_getElem? (i := 492) (by decide +kernel), List.mem_of_getElem? (i := 493) (by decide +kernel)⟩
theorem lw_p20 : lw_okq (⟨"AsleepPass$Reader", "readCarry", "()Z"⟩, 12) := ⟨⟨by decide +kernel, by decide +kernel⟩, List.mem_of_getElem? (i := 29) (by decide +kernel), List.mem_of_getElem? (i := 497) (by decide +kernel), List.mem_of_getElem? (i := 498) (by decide +kernel)⟩
theorem lw_p21 : lw_okq (⟨"AsleepPass$Reader", "lookBehindAll", "()V"⟩, 12) := ⟨⟨by decide +kernel, by decide +kernel⟩, List.mem_of_getElem? (i := 29) (by decide +kernel), List.mem_of_getElem? (i := 504) (by decide +kernel), List.mem_of_getElem? (i := 505) (by decide +kernel)⟩
theorem lw_p22 : lw_okq (⟨"AsleepPass$Way", "copyOf", "(LAsleepPass$Way;)V"⟩, 9) := ⟨⟨by decide +kernel, by decide +kernel⟩, List.mem_of_getElem? (i := 51) (by decide +kernel), List.mem_of_getElem? (i := 508) (by decide +kernel), List.mem_of_getElem? (i := 509) (by decide +kernel)⟩
theorem lw_p23 : lw_okq (⟨"AsleepPass$Way", "hasStretch", "(I)Z"⟩, 9) := ⟨⟨by decide +kernel, by decide +kernel⟩, List.mem_of_getElem? (i := 51) (by decide +kernel), List.mem_of_getElem? (i := 528) (by decide +kernel), List.mem_of_getElem? (i := 529) (by decide +kernel)⟩
theorem lw_p24 : lw_okq (⟨"AsleepPass$Way", "hasBearer", "(I)Z"⟩, 9) := ⟨⟨by decide +kernel, by decide +kernel⟩, List.mem_of_getElem? (i := 51) (by decide +kernel), List.mem_of_getElem? (i := 536) (by decide +kernel), List.mem_of_getElem? (i := 537) (by decide +kernel)⟩
theorem lw_p25 : lw_okq (⟨"AsleepPass$Way", "canHand", "(III)Z"⟩, 9) := ⟨⟨by decide +kernel, by decide +kernel⟩, List.mem_of_getElem? (i := 51) (by decide +kernel), List.mem_of_getElem? (i := 571) (by decide +kernel), List.mem_of_getElem? (i := 572) (by decide +kernel)⟩
theorem lw_p26 : lw_okq (⟨"AsleepPass$Way", "harmBy", "(III)I"⟩, 9) := ⟨⟨by decide +kernel, by decide +kernel⟩, List.mem_of_getElem? (i := 51) (by decide +kernel), List.mem_of_getElem? (i := 577) (by decide +kernel), List.mem_of_getElem? (i := 578) (by decide +kernel)⟩
theorem lw_p27 : lw_okq (⟨"AsleepPass$Way", "noiseBy", "(II)I"⟩, 9) := ⟨⟨by decide +kernel, by decide +kernel⟩, List.mem_of_getElem? (i := 51) (by decide +kernel), List.mem_of_getElem? (i := 582) (by decide +kernel), List.mem_of_getElem? (i := 583) (by decide +kernel)⟩
theorem lw_p28 : lw_okq (⟨"AsleepPass$Way", "coldBy", "(II)I"⟩, 9) := ⟨⟨by decide +kernel, by decide +kernel⟩, List.mem_of_getElem? (i := 51) (by decide +kernel), List.mem_of_getElem? (i := 587) (by decide +kernel), List.mem_of_getElem? (i := 588) (by decide +kernel)⟩
theorem lw_p29 : lw_okq (⟨"AsleepPass$Way", "joltBy", "(II)I"⟩, 9) := ⟨⟨by decide +kernel, by decide +kernel⟩, List.mem_of_getElem? (i := 51) (by decide +kernel), List.mem_of_getElem? (i := 591) (by decide +kernel), List.mem_of_getElem? (i := 592) (by decide +kernel)⟩
theorem lw_p30 : lw_okq (⟨"AsleepPass$Odds", "waking", "(LAsleepPass$Way;II)J"⟩, 3) := ⟨⟨by decide +kernel, by decide +kernel⟩, List.mem_of_getElem? (i := 151) (by decide +kernel), List.mem_of_getElem? (i := 609) (by decide +kernel), List.mem_of_getElem? (i := 610) (by decide +kernel)⟩
theorem lw_p31 : lw_okq (⟨"AsleepPass$Odds", "begin", "(I)V"⟩, 3) := ⟨⟨by decide +kernel, by decide +kernel⟩, List.mem_of_getElem? (i := 151) (by decide +kernel), List.mem_of_getElem? (i := 613) (by decide +kernel), List.mem_of_getElem? (i := 614) (by decide +kernel)⟩
def lw_privs_2 : List (MethodName × Nat) := [(⟨"AsleepPass$Way", "addStretch", "(II)V"⟩, 9), (⟨"AsleepPass$Reader", "readBearer", "()Z"⟩, 12), (⟨"AsleepPass$Reader", "kind", "()I"⟩, 12), (⟨"AsleepPass$Way", "addBearer", "(III)V"⟩, 9), (⟨"AsleepPass$Reader", "readCarry", "()Z"⟩, 12), (⟨"AsleepPass$Reader", "lookBehindAll", "()V"⟩, 12), (⟨"AsleepPass$Way", "copyOf", "(LAsleepPass$Way;)V"⟩, 9), (⟨"AsleepPass$Way", "hasStretch", "(I)Z"⟩, 9), (⟨"AsleepPass$Way", "hasBearer", "(I)Z"⟩, 9), (⟨"AsleepPass$Way", "canHand", "(III)Z"⟩, 9), (⟨"AsleepPass$Way", "harmBy", "(III)I"⟩, 9), (⟨"AsleepPass$Way", "noiseBy", "(II)I"⟩, 9), (⟨"AsleepPass$Way", "coldBy", "(II)I"⟩, 9), (⟨"AsleepPass$Way", "joltBy", "(II)I"⟩, 9), (⟨"AsleepPass$Odds", "waking", "(LAsleepPass$Way;II)J"⟩, 3), (⟨"AsleepPass$Odds", "begin", "(I)V"⟩, 3)]
theorem lw_r2 : ∀ q ∈ lw_privs_2, lw_okq q := List.forall_mem_cons.mpr ⟨lw_p16, List.forall_mem_cons.mpr ⟨lw_p17, List.forall_mem_cons.mpr ⟨lw_p18, List.forall_mem_cons.mpr ⟨lw_p19, List.forall_mem_cons.mpr ⟨lw_p20, List.forall_mem_cons.mpr ⟨lw_p21, List.forall_mem_cons.mpr ⟨lw_p22, List.forall_mem_cons.mpr ⟨lw_p23, List.forall_mem_cons.mpr ⟨lw_p24, List.forall_mem_cons.mpr ⟨lw_p25, List.forall_mem_cons.mpr ⟨lw_p26, List.forall_mem_cons.mpr ⟨lw_p27, List.forall_mem_cons.mpr ⟨lw_p28, List.forall_mem_cons.mpr ⟨lw_p29, List.forall_mem_cons.mpr ⟨lw_p30, List.forall_mem_cons.mpr ⟨lw_p31, fun _ h => absurd h List.not_mem_nil⟩⟩⟩⟩⟩⟩⟩⟩⟩⟩⟩⟩⟩⟩⟩⟩
theorem lw_p32 : lw_okq (⟨"AsleepPass$Odds", "deepen", "()V"⟩, 3) := ⟨⟨by decide +kernel, by decide +kernel⟩, List.mem_of_getElem? (i := 151) (by decide +kernel), List.mem_of_getElem? (i := 617) (by decide +kernel), List.mem_of_getElem? (i := 618) (by decide +kernel)⟩
theorem lw_p33 : lw_okq (⟨"AsleepPass$Odds", "takeAhead", "()V"⟩, 3) := ⟨⟨by decide +kernel, by decide +kernel⟩, List.mem_of_getElem? (i := 151) (by decide +kernel), List.mem_of_getElem? (i := 621) (by decide +kernel), List.mem_of_getElem? (i := 622) (by decide +kernel)⟩
theorem lw_p34 : lw_okq (⟨"AsleepPass$Way", "harmInOrder", "(I)I"⟩, 9) := ⟨⟨by decide +kernel, by decide +kernel⟩, List.mem_of_getElem? (i := 51) (by decide +kernel), List.mem_of_getElem? (i := 626) (by decide +kernel), List.mem_of_getElem? (i := 627) (by decide +kernel)⟩
theorem lw_p35 : lw_okq (⟨"AsleepPass$Odds", "pass", "(I)V"⟩, 3) := ⟨⟨by decide +kernel, by decide +kernel⟩, List.mem_of_getElem? (i := 151) (by decide +kernel), List.mem_of_getElem? (i := 631) (by decide +kernel), List.mem_of_getElem? (i := 632) (by decide +kernel)⟩
theorem lw_p36 : lw_okq (⟨"AsleepPass$Choice", "plan", "(LAsleepPass$Way;I)V"⟩, 3) := ⟨⟨by decide +kernel, by decide +kernel⟩, List.mem_of_getElem? (i := 171) (by decide +kernel), List.mem_of_getElem? (i := 658) (by decide +kernel), List.mem_of_getElem? (i := 659) (by decide +kernel)⟩
theorem lw_p37 : lw_okq (⟨"AsleepPass$Choice", "chooseFrom", "(LAsleepPass$Way;III)V"⟩, 3) := ⟨⟨by decide +kernel, by decide +kernel⟩, List.mem_of_getElem? (i := 171) (by decide +kernel), List.mem_of_getElem? (i := 663) (by decide +kernel), List.mem_of_getElem? (i := 664) (by decide +kernel)⟩
theorem lw_p38 : lw_okq (⟨"AsleepPass$Choice", "weigh", "(IIII)V"⟩, 3) := ⟨⟨by decide +kernel, by decide +kernel⟩, List.mem_of_getElem? (i := 171) (by decide +kernel), List.mem_of_getElem? (i := 672) (by decide +kernel), List.mem_of_getElem? (i := 673) (by decide +kernel)⟩
theorem lw_p39 : lw_okq (⟨"AsleepPass$Choice", "wakingAtFirst", "(LAsleepPass$Way;)J"⟩, 3) := ⟨⟨by decide +kernel, by decide +kernel⟩, List.mem_of_getElem? (i := 171) (by decide +kernel), List.mem_of_getElem? (i := 677) (by decide +kernel), List.mem_of_getElem? (i := 678) (by decide +kernel)⟩
theorem lw_p40 : lw_okq (⟨"AsleepPass", "stopNoises", "(I)V"⟩, 14) := ⟨⟨by decide +kernel, by decide +kernel⟩, List.mem_of_getElem? (i := 21) (by decide +kernel), List.mem_of_getElem? (i := 704) (by decide +kernel), List.mem_of_getElem? (i := 705) (by decide +kernel)⟩
theorem lw_p41 : lw_okq (⟨"AsleepPass$Way", "exchange", "(II)V"⟩, 9) := ⟨⟨by decide +kernel, by decide +kernel⟩, List.mem_of_getElem? (i := 51) (by decide +kernel), List.mem_of_getElem? (i := 716) (by decide +kernel), List.mem_of_getElem? (i := 717) (by decide +kernel)⟩
theorem lw_p42 : lw_okq (⟨"AsleepPass$Crossing", "cross", "(LAsleepPass$Way;I)V"⟩, 3) := ⟨⟨by decide +kernel, by decide +kernel⟩, List.mem_of_getElem? (i := 193) (by decide +kernel), List.mem_of_getElem? (i := 724) (by decide +kernel), List.mem_of_getElem? (i := 725) (by decide +kernel)⟩
theorem lw_p43 : lw_okq (⟨"AsleepPass$Learnt", "add", "(IIII)Z"⟩, 5) := ⟨⟨by decide +kernel, by decide +kernel⟩, List.mem_of_getElem? (i := 212) (by decide +kernel), List.mem_of_getElem? (i := 735) (by decide +kernel), List.mem_of_getElem? (i := 736) (by decide +kernel)⟩
theorem lw_p44 : lw_okq (⟨"AsleepPass$Learnt", "isSo", "(LAsleepPass$Way;)Z"⟩, 5) := ⟨⟨by decide +kernel, by decide +kernel⟩, List.mem_of_getElem? (i := 212) (by decide +kernel), List.mem_of_getElem? (i := 747) (by decide +kernel), List.mem_of_getElem? (i := 748) (by decide +kernel)⟩
theorem lw_p45 : lw_okq (⟨"AsleepPass$Marked", "add", "(II)Z"⟩, 3) := ⟨⟨by decide +kernel, by decide +kernel⟩, List.mem_of_getElem? (i := 235) (by decide +kernel), List.mem_of_getElem? (i := 756) (by decide +kernel), List.mem_of_getElem? (i := 757) (by decide +kernel)⟩
theorem lw_p46 : lw_okq (⟨"AsleepPass$Trails", "explore", "(LAsleepPass$Way;LAsleepPass$Marked;)V"⟩, 3) := ⟨⟨by decide +kernel, by decide +kernel⟩, List.mem_of_getElem? (i := 252) (by decide +kernel), List.mem_of_getElem? (i := 768) (by decide +kernel), List.mem_of_getElem? (i := 769) (by decide +kernel)⟩
theorem lw_p47 : lw_okq (⟨"AsleepPass$Trails", "leadInto", "(II)V"⟩, 3) := ⟨⟨by decide +kernel, by decide +kernel⟩, List.mem_of_getElem? (i := 252) (by decide +kernel), List.mem_of_getElem? (i := 773) (by decide +kernel), List.mem_of_getElem? (i := 774) (by decide +kernel)⟩
def lw_privs_3 : List (MethodName × Nat) := [(⟨"AsleepPass$Odds", "deepen", "()V"⟩, 3), (⟨"AsleepPass$Odds", "takeAhead", "()V"⟩, 3), (⟨"AsleepPass$Way", "harmInOrder", "(I)I"⟩, 9), (⟨"AsleepPass$Odds", "pass", "(I)V"⟩, 3), (⟨"AsleepPass$Choice", "plan", "(LAsleepPass$Way;I)V"⟩, 3), (⟨"AsleepPass$Choice", "chooseFrom", "(LAsleepPass$Way;III)V"⟩, 3), (⟨"AsleepPass$Choice", "weigh", "(IIII)V"⟩, 3), (⟨"AsleepPass$Choice", "wakingAtFirst", "(LAsleepPass$Way;)J"⟩, 3), (⟨"AsleepPass", "stopNoises", "(I)V"⟩, 14), (⟨"AsleepPass$Way", "exchange", "(II)V"⟩, 9), (⟨"AsleepPass$Crossing", "cross", "(LAsleepPass$Way;I)V"⟩, 3), (⟨"AsleepPass$Learnt", "add", "(IIII)Z"⟩, 5), (⟨"AsleepPass$Learnt", "isSo", "(LAsleepPass$Way;)Z"⟩, 5), (⟨"AsleepPass$Marked", "add", "(II)Z"⟩, 3), (⟨"AsleepPass$Trails", "explore", "(LAsleepPass$Way;LAsleepPass$Marked;)V"⟩, 3), (⟨"AsleepPass$Trails", "leadInto", "(II)V"⟩, 3)]
theorem lw_r3 : ∀ q ∈ lw_privs_3, lw_okq q := List.forall_mem_cons.mpr ⟨lw_p32, List.forall_mem_cons.mpr ⟨lw_p33, List.forall_mem_cons.mpr ⟨lw_p34, List.forall_mem_cons.mpr ⟨lw_p35, List.forall_mem_cons.mpr ⟨lw_p36, List.forall_mem_cons.mpr ⟨lw_p37, List.forall_mem_cons.mpr ⟨lw_p38, List.forall_mem_cons.mpr ⟨lw_p39, List.forall_mem_cons.mpr ⟨lw_p40, List.forall_mem_cons.mpr ⟨lw_p41, List.forall_mem_cons.mpr ⟨lw_p42, List.forall_mem_cons.mpr ⟨lw_p43, List.forall_mem_cons.mpr ⟨lw_p44, List.forall_mem_cons.mpr ⟨lw_p45, List.forall_mem_cons.mpr ⟨lw_p46, List.forall_mem_cons.mpr ⟨lw_p47, fun _ h => absurd h List.not_mem_nil⟩⟩⟩⟩⟩⟩⟩⟩⟩⟩⟩⟩⟩⟩⟩⟩
theorem lw_p48 : lw_okq (⟨"AsleepPass$Marked", "allows", "(II)Z"⟩, 3) := ⟨⟨by decide +kernel, by decide +kernel⟩, List.mem_of_getElem? (i := 235) (by decide +kernel), List.mem_of_getElem? (i := 781) (by decide +kernel), List.mem_of_getElem? (i := 782) (by decide +kernel)⟩
theorem lw_p49 : lw_okq (⟨"AsleepPass$Trails", "leadOnward", "(II)V"⟩, 3) := ⟨⟨by decide +kernel, by decide +kernel⟩, List.mem_of_getElem? (i := 252) (by decide +kernel), List.mem_of_getElem? (i := 785) (by decide +kernel), List.mem_of_getElem? (i := 786) (by decide +kernel)⟩
theorem lw_p50 : lw_okq (⟨"AsleepPass$Trails", "canBeBehind", "(II)Z"⟩, 3) := ⟨⟨by decide +kernel, by decide +kernel⟩, List.mem_of_getElem? (i := 252) (by decide +kernel), List.mem_of_getElem? (i := 793) (by decide +kernel), List.mem_of_getElem? (i := 794) (by decide +kernel)⟩
theorem lw_p51 : lw_okq (⟨"AsleepPass$Trails", "falling", "(LAsleepPass$Way;I)I"⟩, 3) := ⟨⟨by decide +kernel, by decide +kernel⟩, List.mem_of_getElem? (i := 252) (by decide +kernel), List.mem_of_getElem? (i := 801) (by decide +kernel), List.mem_of_getElem? (i := 802) (by decide +kernel)⟩
theorem lw_p52 : lw_okq (⟨"AsleepPass$Trails", "rising", "(LAsleepPass$Way;I)I"⟩, 3) := ⟨⟨by decide +kernel, by decide +kernel⟩, List.mem_of_getElem? (i := 252) (by decide +kernel), List.mem_of_getElem? (i := 805) (by decide +kernel), List.mem_of_getElem? (i := 806) (by decide +kernel)⟩
theorem lw_p53 : lw_okq (⟨"AsleepPass$Sheets", "renew", "(III)V"⟩, 7) := ⟨⟨by decide +kernel, by decide +kernel⟩, List.mem_of_getElem? (i := 270) (by decide +kernel), List.mem_of_getElem? (i := 830) (by decide +kernel), List.mem_of_getElem? (i := 831) (by decide +kernel)⟩
theorem lw_p54 : lw_okq (⟨"AsleepPass$Sheets", "faultAt", "(IJ)I"⟩, 7) := ⟨⟨by decide +kernel, by decide +kernel⟩, List.mem_of_getElem? (i := 270) (by decide +kernel), List.mem_of_getElem? (i := 839) (by decide +kernel), List.mem_of_getElem? (i := 840) (by decide +kernel)⟩
theorem lw_p55 : lw_okq (⟨"AsleepPass$Sheets", "fill", "(III)V"⟩, 7) := ⟨⟨by decide +kernel, by decide +kernel⟩, List.mem_of_getElem? (i := 270) (by decide +kernel), List.mem_of_getElem? (i := 843) (by decide +kernel), List.mem_of_getElem? (i := 844) (by decide +kernel)⟩
theorem lw_p56 : lw_okq (⟨"AsleepPass$Sheets", "takePairs", "(IIII)V"⟩, 7) := ⟨⟨by decide +kernel, by decide +kernel⟩, List.mem_of_getElem? (i := 270) (by decide +kernel), List.mem_of_getElem? (i := 852) (by decide +kernel), List.mem_of_getElem? (i := 853) (by decide +kernel)⟩
theorem lw_p57 : lw_okq (⟨"AsleepPass$Sheets", "sizeOf", "(I)I"⟩, 7) := ⟨⟨by decide +kernel, by decide +kernel⟩, List.mem_of_getElem? (i := 270) (by decide +kernel), List.mem_of_getElem? (i := 865) (by decide +kernel), List.mem_of_getElem? (i := 866) (by decide +kernel)⟩
theorem lw_p58 : lw_okq (⟨"AsleepPass$Way", "handOvers", "()I"⟩, 9) := ⟨⟨by decide +kernel, by decide +kernel⟩, List.mem_of_getElem? (i := 51) (by decide +kernel), List.mem_of_getElem? (i := 869) (by decide +kernel), List.mem_of_getElem? (i := 870) (by decide +kernel)⟩
theorem lw_p59 : lw_okq (⟨"AsleepPassModel", "goesOn", "()V"⟩, 35) := ⟨⟨by decide +kernel, by decide +kernel⟩, List.mem_of_getElem? (i := 873) (by decide +kernel), List.mem_of_getElem? (i := 1000) (by decide +kernel), List.mem_of_getElem? (i := 1001) (by decide +kernel)⟩
theorem lw_p60 : lw_okq (⟨"AsleepPassModel", "byteAt", "(I)I"⟩, 35) := ⟨⟨by decide +kernel, by decide +kernel⟩, List.mem_of_getElem? (i := 873) (by decide +kernel), List.mem_of_getElem? (i := 1004) (by decide +kernel), List.mem_of_getElem? (i := 1005) (by decide +kernel)⟩
theorem lw_p61 : lw_okq (⟨"AsleepPassModel", "fails", "(I)V"⟩, 35) := ⟨⟨by decide +kernel, by decide +kernel⟩, List.mem_of_getElem? (i := 873) (by decide +kernel), List.mem_of_getElem? (i := 1012) (by decide +kernel), List.mem_of_getElem? (i := 1013) (by decide +kernel)⟩
theorem lw_p62 : lw_okq (⟨"AsleepPassModel", "readLine", "()V"⟩, 35) := ⟨⟨by decide +kernel, by decide +kernel⟩, List.mem_of_getElem? (i := 873) (by decide +kernel), List.mem_of_getElem? (i := 1016) (by decide +kernel), List.mem_of_getElem? (i := 1017) (by decide +kernel)⟩
theorem lw_p63 : lw_okq (⟨"AsleepPassModel", "nameHere", "()I"⟩, 35) := ⟨⟨by decide +kernel, by decide +kernel⟩, List.mem_of_getElem? (i := 873) (by decide +kernel), List.mem_of_getElem? (i := 1020) (by decide +kernel), List.mem_of_getElem? (i := 1021) (by decide +kernel)⟩
def lw_privs_4 : List (MethodName × Nat) := [(⟨"AsleepPass$Marked", "allows", "(II)Z"⟩, 3), (⟨"AsleepPass$Trails", "leadOnward", "(II)V"⟩, 3), (⟨"AsleepPass$Trails", "canBeBehind", "(II)Z"⟩, 3), (⟨"AsleepPass$Trails", "falling", "(LAsleepPass$Way;I)I"⟩, 3), (⟨"AsleepPass$Trails", "rising", "(LAsleepPass$Way;I)I"⟩, 3), (⟨"AsleepPass$Sheets", "renew", "(III)V"⟩, 7), (⟨"AsleepPass$Sheets", "faultAt", "(IJ)I"⟩, 7), (⟨"AsleepPass$Sheets", "fill", "(III)V"⟩, 7), (⟨"AsleepPass$Sheets", "takePairs", "(IIII)V"⟩, 7), (⟨"AsleepPass$Sheets", "sizeOf", "(I)I"⟩, 7), (⟨"AsleepPass$Way", "handOvers", "()I"⟩, 9), (⟨"AsleepPassModel", "goesOn", "()V"⟩, 35), (⟨"AsleepPassModel", "byteAt", "(I)I"⟩, 35), (⟨"AsleepPassModel", "fails", "(I)V"⟩, 35), (⟨"AsleepPassModel", "readLine", "()V"⟩, 35), (⟨"AsleepPassModel", "nameHere", "()I"⟩, 35)]
theorem lw_r4 : ∀ q ∈ lw_privs_4, lw_okq q := List.forall_mem_cons.mpr ⟨lw_p48, List.forall_mem_cons.mpr ⟨lw_p49, List.forall_mem_cons.mpr ⟨lw_p50, List.forall_mem_cons.mpr ⟨lw_p51, List.forall_mem_cons.mpr ⟨lw_p52, List.forall_mem_cons.mpr ⟨lw_p53, List.forall_mem_cons.mpr ⟨lw_p54, List.forall_mem_cons.mpr ⟨lw_p55, List.forall_mem_cons.mpr ⟨lw_p56, List.forall_mem_cons.mpr ⟨lw_p57, List.forall_mem_cons.mpr ⟨lw_p58, List.forall_mem_cons.mpr ⟨lw_p59, List.forall_mem_cons.mpr ⟨lw_p60, List.forall_mem_cons.mpr ⟨lw_p61, List.forall_mem_cons.mpr ⟨lw_p62, List.forall_mem_cons.mpr ⟨lw_p63, fun _ h => absurd h List.not_mem_nil⟩⟩⟩⟩⟩⟩⟩⟩⟩⟩⟩⟩⟩⟩⟩⟩
theorem lw_p64 : lw_okq (⟨"AsleepPassModel", "readBearer", "()V"⟩, 35) := ⟨⟨by decide +kernel, by decide +kernel⟩, List.mem_of_getElem? (i := 873) (by decide +kernel), List.mem_of_getElem? (i := 1025) (by decide +kernel), List.mem_of_getElem? (i := 1026) (by decide +kernel)⟩
theorem lw_p65 : lw_okq (⟨"AsleepPassModel", "other", "(III)I"⟩, 35) := ⟨⟨by decide +kernel, by decide +kernel⟩, List.mem_of_getElem? (i := 873) (by decide +kernel), List.mem_of_getElem? (i := 1029) (by decide +kernel), List.mem_of_getElem? (i := 1030) (by decide +kernel)⟩
theorem lw_p66 : lw_okq (⟨"AsleepPassModel", "readMore", "(I)V"⟩, 35) := ⟨⟨by decide +kernel, by decide +kernel⟩, List.mem_of_getElem? (i := 873) (by decide +kernel), List.mem_of_getElem? (i := 1033) (by decide +kernel), List.mem_of_getElem? (i := 1034) (by decide +kernel)⟩
theorem lw_p67 : lw_okq (⟨"AsleepPassModel", "startNow", "()I"⟩, 35) := ⟨⟨by decide +kernel, by decide +kernel⟩, List.mem_of_getElem? (i := 873) (by decide +kernel), List.mem_of_getElem? (i := 1045) (by decide +kernel), List.mem_of_getElem? (i := 1046) (by decide +kernel)⟩
theorem lw_p68 : lw_okq (⟨"AsleepPassModel", "isStretch", "(I)Z"⟩, 35) := ⟨⟨by decide +kernel, by decide +kernel⟩, List.mem_of_getElem? (i := 873) (by decide +kernel), List.mem_of_getElem? (i := 1053) (by decide +kernel), List.mem_of_getElem? (i := 1054) (by decide +kernel)⟩
theorem lw_p69 : lw_okq (⟨"AsleepPassModel", "isBearer", "(I)Z"⟩, 35) := ⟨⟨by decide +kernel, by decide +kernel⟩, List.mem_of_getElem? (i := 873) (by decide +kernel), List.mem_of_getElem? (i := 1062) (by decide +kernel), List.mem_of_getElem? (i := 1063) (by decide +kernel)⟩
theorem lw_p70 : lw_okq (⟨"AsleepPassModel", "sets", "(ZII)I"⟩, 35) := ⟨⟨by decide +kernel, by decide +kernel⟩, List.mem_of_getElem? (i := 873) (by decide +kernel), List.mem_of_getElem? (i := 1071) (by decide +kernel), List.mem_of_getElem? (i := 1072) (by decide +kernel)⟩
theorem lw_p71 : lw_okq (⟨"AsleepPassModel", "puts", "(II)I"⟩, 35) := ⟨⟨by decide +kernel, by decide +kernel⟩, List.mem_of_getElem? (i := 873) (by decide +kernel), List.mem_of_getElem? (i := 1095) (by decide +kernel), List.mem_of_getElem? (i := 1096) (by decide +kernel)⟩
theorem lw_p72 : lw_okq (⟨"AsleepPassModel", "canHarm", "(III)Z"⟩, 35) := ⟨⟨by decide +kernel, by decide +kernel⟩, List.mem_of_getElem? (i := 873) (by decide +kernel), List.mem_of_getElem? (i := 1103) (by decide +kernel), List.mem_of_getElem? (i := 1104) (by decide +kernel)⟩
theorem lw_p73 : lw_okq (⟨"AsleepPassModel", "harmOf", "(IIIZ)I"⟩, 35) := ⟨⟨by decide +kernel, by decide +kernel⟩, List.mem_of_getElem? (i := 873) (by decide +kernel), List.mem_of_getElem? (i := 1107) (by decide +kernel), List.mem_of_getElem? (i := 1108) (by decide +kernel)⟩
theorem lw_p74 : lw_okq (⟨"AsleepPassModel", "kindOf", "(I)I"⟩, 35) := ⟨⟨by decide +kernel, by decide +kernel⟩, List.mem_of_getElem? (i := 873) (by decide +kernel), List.mem_of_getElem? (i := 1111) (by decide +kernel), List.mem_of_getElem? (i := 1112) (by decide +kernel)⟩
theorem lw_p75 : lw_okq (⟨"AsleepPassModel", "layOdds", "(III)V"⟩, 35) := ⟨⟨by decide +kernel, by decide +kernel⟩, List.mem_of_getElem? (i := 873) (by decide +kernel), List.mem_of_getElem? (i := 1120) (by decide +kernel), List.mem_of_getElem? (i := 1121) (by decide +kernel)⟩
theorem lw_p76 : lw_okq (⟨"AsleepPassModel", "orderedHarm", "(IZ)I"⟩, 35) := ⟨⟨by decide +kernel, by decide +kernel⟩, List.mem_of_getElem? (i := 873) (by decide +kernel), List.mem_of_getElem? (i := 1124) (by decide +kernel), List.mem_of_getElem? (i := 1125) (by decide +kernel)⟩
theorem lw_p77 : lw_okq (⟨"AsleepPassModel", "layBest", "(I)V"⟩, 35) := ⟨⟨by decide +kernel, by decide +kernel⟩, List.mem_of_getElem? (i := 873) (by decide +kernel), List.mem_of_getElem? (i := 1151) (by decide +kernel), List.mem_of_getElem? (i := 1152) (by decide +kernel)⟩
theorem lw_p78 : lw_okq (⟨"AsleepPassModel", "byOne", "(IIII)J"⟩, 35) := ⟨⟨by decide +kernel, by decide +kernel⟩, List.mem_of_getElem? (i := 873) (by decide +kernel), List.mem_of_getElem? (i := 1156) (by decide +kernel), List.mem_of_getElem? (i := 1157) (by decide +kernel)⟩
theorem lw_p79 : lw_okq (⟨"AsleepPassModel", "changes", "(II)V"⟩, 35) := ⟨⟨by decide +kernel, by decide +kernel⟩, List.mem_of_getElem? (i := 873) (by decide +kernel), List.mem_of_getElem? (i := 1188) (by decide +kernel), List.mem_of_getElem? (i := 1189) (by decide +kernel)⟩
def lw_privs_5 : List (MethodName × Nat) := [(⟨"AsleepPassModel", "readBearer", "()V"⟩, 35), (⟨"AsleepPassModel", "other", "(III)I"⟩, 35), (⟨"AsleepPassModel", "readMore", "(I)V"⟩, 35), (⟨"AsleepPassModel", "startNow", "()I"⟩, 35), (⟨"AsleepPassModel", "isStretch", "(I)Z"⟩, 35), (⟨"AsleepPassModel", "isBearer", "(I)Z"⟩, 35), (⟨"AsleepPassModel", "sets", "(ZII)I"⟩, 35), (⟨"AsleepPassModel", "puts", "(II)I"⟩, 35), (⟨"AsleepPassModel", "canHarm", "(III)Z"⟩, 35), (⟨"AsleepPassModel", "harmOf", "(IIIZ)I"⟩, 35), (⟨"AsleepPassModel", "kindOf", "(I)I"⟩, 35), (⟨"AsleepPassModel", "layOdds", "(III)V"⟩, 35), (⟨"AsleepPassModel", "orderedHarm", "(IZ)I"⟩, 35), (⟨"AsleepPassModel", "layBest", "(I)V"⟩, 35), (⟨"AsleepPassModel", "byOne", "(IIII)J"⟩, 35), (⟨"AsleepPassModel", "changes", "(II)V"⟩, 35)]
theorem lw_r5 : ∀ q ∈ lw_privs_5, lw_okq q := List.forall_mem_cons.mpr ⟨lw_p64, List.forall_mem_cons.mpr ⟨lw_p65, List.forall_mem_cons.mpr ⟨lw_p66, List.forall_mem_cons.mpr ⟨lw_p67, List.forall_mem_cons.mpr ⟨lw_p68, List.forall_mem_cons.mpr ⟨lw_p69, List.forall_mem_cons.mpr ⟨lw_p70, List.forall_mem_cons.mpr ⟨lw_p71, List.forall_mem_cons.mpr ⟨lw_p72, List.forall_mem_cons.mpr ⟨lw_p73, List.forall_mem_cons.mpr ⟨lw_p74, List.forall_mem_cons.mpr ⟨lw_p75, List.forall_mem_cons.mpr ⟨lw_p76, List.forall_mem_cons.mpr ⟨lw_p77, List.forall_mem_cons.mpr ⟨lw_p78, List.forall_mem_cons.mpr ⟨lw_p79, fun _ h => absurd h List.not_mem_nil⟩⟩⟩⟩⟩⟩⟩⟩⟩⟩⟩⟩⟩⟩⟩⟩
theorem lw_p80 : lw_okq (⟨"AsleepPassModel", "layPaths", "()V"⟩, 35) := ⟨⟨by decide +kernel, by decide +kernel⟩, List.mem_of_getElem? (i := 873) (by decide +kernel), List.mem_of_getElem? (i := 1221) (by decide +kernel), List.mem_of_getElem? (i := 1222) (by decide +kernel)⟩
theorem lw_p81 : lw_okq (⟨"AsleepPassModel", "depthThen", "(IIZ)I"⟩, 35) := ⟨⟨by decide +kernel, by decide +kernel⟩, List.mem_of_getElem? (i := 873) (by decide +kernel), List.mem_of_getElem? (i := 1225) (by decide +kernel), List.mem_of_getElem? (i := 1226) (by decide +kernel)⟩
theorem lw_p82 : lw_okq (⟨"AsleepPassModel", "isMarked", "(II)Z"⟩, 35) := ⟨⟨by decide +kernel, by decide +kernel⟩, List.mem_of_getElem? (i := 873) (by decide +kernel), List.mem_of_getElem? (i := 1229) (by decide +kernel), List.mem_of_getElem? (i := 1230) (by decide +kernel)⟩
theorem lw_p83 : lw_okq (⟨"AsleepPassModel", "onward", "(IIZ)I"⟩, 35) := ⟨⟨by decide +kernel, by decide +kernel⟩, List.mem_of_getElem? (i := 873) (by decide +kernel), List.mem_of_getElem? (i := 1233) (by decide +kernel), List.mem_of_getElem? (i := 1234) (by decide +kernel)⟩
theorem lw_p84 : lw_okq (⟨"AsleepPassModel", "copies", "(II)V"⟩, 35) := ⟨⟨by decide +kernel, by decide +kernel⟩, List.mem_of_getElem? (i := 873) (by decide +kernel), List.mem_of_getElem? (i := 1249) (by decide +kernel), List.mem_of_getElem? (i := 1250) (by decide +kernel)⟩
def lw_privs_6 : List (MethodName × Nat) := [(⟨"AsleepPassModel", "layPaths", "()V"⟩, 35), (⟨"AsleepPassModel", "depthThen", "(IIZ)I"⟩, 35), (⟨"AsleepPassModel", "isMarked", "(II)Z"⟩, 35), (⟨"AsleepPassModel", "onward", "(IIZ)I"⟩, 35), (⟨"AsleepPassModel", "copies", "(II)V"⟩, 35)]
theorem lw_r6 : ∀ q ∈ lw_privs_6, lw_okq q := List.forall_mem_cons.mpr ⟨lw_p80, List.forall_mem_cons.mpr ⟨lw_p81, List.forall_mem_cons.mpr ⟨lw_p82, List.forall_mem_cons.mpr ⟨lw_p83, List.forall_mem_cons.mpr ⟨lw_p84, fun _ h => absurd h List.not_mem_nil⟩⟩⟩⟩⟩
def lw_privs : List (MethodName × Nat) := lw_privs_1 ++ (lw_privs_2 ++ (lw_privs_3 ++ (lw_privs_4 ++ (lw_privs_5 ++ (lw_privs_6)))))
def lw_tbl : List Cond := k2_sels lw_privs ++ tables_1
theorem lw_privs_ok : ∀ q ∈ lw_privs, lw_okq q := by
  show ∀ q ∈ lw_privs_1 ++ (lw_privs_2 ++ (lw_privs_3 ++ (lw_privs_4 ++ (lw_privs_5 ++ (lw_privs_6))))), lw_okq q
  exact List.forall_mem_append.mpr ⟨lw_r1, List.forall_mem_append.mpr ⟨lw_r2, List.forall_mem_append.mpr ⟨lw_r3, List.forall_mem_append.mpr ⟨lw_r4, List.forall_mem_append.mpr ⟨lw_r5, lw_r6⟩⟩⟩⟩⟩

def RX0 : String := "AsleepPass$Choice"
def TX0 : u_T := fun k => match k with
  | 0 => ("AsleepPass$Choice", "whole", "J", false)
  | 1 => ("AsleepPass$Choice", "waking", "[[J", true)
  | _ => ("AsleepPass$Choice", "chosen", "[[I", true)
def tyX0 : Nat → FieldType := fun k => match k with
  | 0 => .long
  | 1 => .array (.array .long)
  | _ => .array (.array .int)
theorem nmX0 : ∀ a, a < 3 → ∀ b, b < 3 → a ≠ b → (TX0 a).2.1 ≠ (TX0 b).2.1 := by decide +kernel
theorem tyX0_ok : ∀ k, k < 3 → parseFieldDescriptor (TX0 k).2.2.1 = some (tyX0 k) := by decide +kernel
abbrev cX0_init : ByteArray := prog_2_method_1_code
def yX0_init : MethodName := ⟨RX0, "<init>", "()V"⟩
abbrev cX0_slot : ByteArray := prog_2_method_2_code
def yX0_slot : MethodName := ⟨RX0, "slot", "(II)I"⟩
abbrev cX0_plan : ByteArray := prog_2_method_3_code
def yX0_plan : MethodName := ⟨RX0, "plan", "(LAsleepPass$Way;I)V"⟩
abbrev cX0_chooseFrom : ByteArray := prog_2_method_4_code
def yX0_chooseFrom : MethodName := ⟨RX0, "chooseFrom", "(LAsleepPass$Way;III)V"⟩
abbrev cX0_weigh : ByteArray := prog_2_method_5_code
def yX0_weigh : MethodName := ⟨RX0, "weigh", "(IIII)V"⟩
abbrev cX0_wakingAtFirst : ByteArray := prog_2_method_6_code
def yX0_wakingAtFirst : MethodName := ⟨RX0, "wakingAtFirst", "(LAsleepPass$Way;)J"⟩
def RX1 : String := "AsleepPass$Crossing"
def TX1 : u_T := fun k => match k with
  | 0 => ("AsleepPass$Crossing", "depthNow", "I", false)
  | 1 => ("AsleepPass$Crossing", "falls", "I", false)
  | _ => ("AsleepPass$Crossing", "wokeOn", "I", false)
def tyX1 : Nat → FieldType := fun k => match k with
  | 0 => .int
  | 1 => .int
  | _ => .int
theorem nmX1 : ∀ a, a < 3 → ∀ b, b < 3 → a ≠ b → (TX1 a).2.1 ≠ (TX1 b).2.1 := by decide +kernel
theorem tyX1_ok : ∀ k, k < 3 → parseFieldDescriptor (TX1 k).2.2.1 = some (tyX1 k) := by decide +kernel
abbrev cX1_init : ByteArray := prog_3_method_1_code
def yX1_init : MethodName := ⟨RX1, "<init>", "()V"⟩
abbrev cX1_cross : ByteArray := prog_3_method_2_code
def yX1_cross : MethodName := ⟨RX1, "cross", "(LAsleepPass$Way;I)V"⟩
def RX2 : String := "AsleepPass$Learnt"
def TX2 : u_T := fun k => match k with
  | 0 => ("AsleepPass$Learnt", "size", "I", false)
  | 1 => ("AsleepPass$Learnt", "stretchOf", "[I", true)
  | 2 => ("AsleepPass$Learnt", "giverOf", "[I", true)
  | 3 => ("AsleepPass$Learnt", "takerOf", "[I", true)
  | _ => ("AsleepPass$Learnt", "harmOf", "[I", true)
def tyX2 : Nat → FieldType := fun k => match k with
  | 0 => .int
  | 1 => .array .int
  | 2 => .array .int
  | 3 => .array .int
  | _ => .array .int
theorem nmX2 : ∀ a, a < 5 → ∀ b, b < 5 → a ≠ b → (TX2 a).2.1 ≠ (TX2 b).2.1 := by decide +kernel
theorem tyX2_ok : ∀ k, k < 5 → parseFieldDescriptor (TX2 k).2.2.1 = some (tyX2 k) := by decide +kernel
abbrev cX2_init : ByteArray := prog_4_method_1_code
def yX2_init : MethodName := ⟨RX2, "<init>", "()V"⟩
abbrev cX2_add : ByteArray := prog_4_method_2_code
def yX2_add : MethodName := ⟨RX2, "add", "(IIII)Z"⟩
abbrev cX2_isSo : ByteArray := prog_4_method_3_code
def yX2_isSo : MethodName := ⟨RX2, "isSo", "(LAsleepPass$Way;)Z"⟩
def RX3 : String := "AsleepPass$Marked"
def TX3 : u_T := fun k => match k with
  | 0 => ("AsleepPass$Marked", "size", "I", false)
  | 1 => ("AsleepPass$Marked", "stretchOf", "[I", true)
  | _ => ("AsleepPass$Marked", "depthOf", "[I", true)
def tyX3 : Nat → FieldType := fun k => match k with
  | 0 => .int
  | 1 => .array .int
  | _ => .array .int
theorem nmX3 : ∀ a, a < 3 → ∀ b, b < 3 → a ≠ b → (TX3 a).2.1 ≠ (TX3 b).2.1 := by decide +kernel
theorem tyX3_ok : ∀ k, k < 3 → parseFieldDescriptor (TX3 k).2.2.1 = some (tyX3 k) := by decide +kernel
abbrev cX3_init : ByteArray := prog_5_method_1_code
def yX3_init : MethodName := ⟨RX3, "<init>", "()V"⟩
abbrev cX3_add : ByteArray := prog_5_method_2_code
def yX3_add : MethodName := ⟨RX3, "add", "(II)Z"⟩
abbrev cX3_allows : ByteArray := prog_5_method_3_code
def yX3_allows : MethodName := ⟨RX3, "allows", "(II)Z"⟩
def RX4 : String := "AsleepPass$Odds"
def TX4 : u_T := fun k => match k with
  | 0 => ("AsleepPass$Odds", "whole", "J", false)
  | 1 => ("AsleepPass$Odds", "shares", "[J", true)
  | _ => ("AsleepPass$Odds", "ahead", "[J", true)
def tyX4 : Nat → FieldType := fun k => match k with
  | 0 => .long
  | 1 => .array .long
  | _ => .array .long
theorem nmX4 : ∀ a, a < 3 → ∀ b, b < 3 → a ≠ b → (TX4 a).2.1 ≠ (TX4 b).2.1 := by decide +kernel
theorem tyX4_ok : ∀ k, k < 3 → parseFieldDescriptor (TX4 k).2.2.1 = some (tyX4 k) := by decide +kernel
abbrev cX4_init : ByteArray := prog_6_method_1_code
def yX4_init : MethodName := ⟨RX4, "<init>", "()V"⟩
abbrev cX4_waking : ByteArray := prog_6_method_2_code
def yX4_waking : MethodName := ⟨RX4, "waking", "(LAsleepPass$Way;II)J"⟩
abbrev cX4_begin : ByteArray := prog_6_method_3_code
def yX4_begin : MethodName := ⟨RX4, "begin", "(I)V"⟩
abbrev cX4_takeAhead : ByteArray := prog_6_method_4_code
def yX4_takeAhead : MethodName := ⟨RX4, "takeAhead", "()V"⟩
abbrev cX4_pass : ByteArray := prog_6_method_5_code
def yX4_pass : MethodName := ⟨RX4, "pass", "(I)V"⟩
abbrev cX4_deepen : ByteArray := prog_6_method_6_code
def yX4_deepen : MethodName := ⟨RX4, "deepen", "()V"⟩
def RX5 : String := "AsleepPass$Reader"
def TX5 : u_T := fun k => match k with
  | 0 => ("AsleepPass$Reader", "tape", "LAsleepPass$Tape;", true)
  | 1 => ("AsleepPass$Reader", "told", "LAsleepPass$Way;", true)
  | 2 => ("AsleepPass$Reader", "found", "I", false)
  | 3 => ("AsleepPass$Reader", "place", "I", false)
  | 4 => ("AsleepPass$Reader", "lines", "I", false)
  | 5 => ("AsleepPass$Reader", "token", "I", false)
  | 6 => ("AsleepPass$Reader", "first", "I", false)
  | 7 => ("AsleepPass$Reader", "past", "I", false)
  | 8 => ("AsleepPass$Reader", "startTold", "Z", false)
  | 9 => ("AsleepPass$Reader", "carried", "I", false)
  | 10 => ("AsleepPass$Reader", "furthestStretch", "I", false)
  | _ => ("AsleepPass$Reader", "furthestBearer", "I", false)
def tyX5 : Nat → FieldType := fun k => match k with
  | 0 => .object "AsleepPass$Tape"
  | 1 => .object "AsleepPass$Way"
  | 2 => .int
  | 3 => .int
  | 4 => .int
  | 5 => .int
  | 6 => .int
  | 7 => .int
  | 8 => .boolean
  | 9 => .int
  | 10 => .int
  | _ => .int
theorem nmX5 : ∀ a, a < 12 → ∀ b, b < 12 → a ≠ b → (TX5 a).2.1 ≠ (TX5 b).2.1 := by decide +kernel
theorem tyX5_ok : ∀ k, k < 12 → parseFieldDescriptor (TX5 k).2.2.1 = some (tyX5 k) := by decide +kernel
abbrev cX5_init : ByteArray := prog_7_method_1_code
def yX5_init : MethodName := ⟨RX5, "<init>", "()V"⟩
abbrev cX5_readAll : ByteArray := prog_7_method_2_code
def yX5_readAll : MethodName := ⟨RX5, "readAll", "()V"⟩
abbrev cX5_begin : ByteArray := prog_7_method_3_code
def yX5_begin : MethodName := ⟨RX5, "begin", "()V"⟩
abbrev cX5_refuse : ByteArray := prog_7_method_4_code
def yX5_refuse : MethodName := ⟨RX5, "refuse", "(II)Z"⟩
abbrev cX5_nextToken : ByteArray := prog_7_method_5_code
def yX5_nextToken : MethodName := ⟨RX5, "nextToken", "()Z"⟩
abbrev cX5_isName : ByteArray := prog_7_method_6_code
def yX5_isName : MethodName := ⟨RX5, "isName", "(Ljava/lang/String;)Z"⟩
abbrev cX5_readLine : ByteArray := prog_7_method_7_code
def yX5_readLine : MethodName := ⟨RX5, "readLine", "()Z"⟩
abbrev cX5_readStart : ByteArray := prog_7_method_8_code
def yX5_readStart : MethodName := ⟨RX5, "readStart", "()Z"⟩
abbrev cX5_readStretch : ByteArray := prog_7_method_9_code
def yX5_readStretch : MethodName := ⟨RX5, "readStretch", "()Z"⟩
abbrev cX5_readBearer : ByteArray := prog_7_method_10_code
def yX5_readBearer : MethodName := ⟨RX5, "readBearer", "()Z"⟩
abbrev cX5_readCarry : ByteArray := prog_7_method_11_code
def yX5_readCarry : MethodName := ⟨RX5, "readCarry", "()Z"⟩
abbrev cX5_kind : ByteArray := prog_7_method_12_code
def yX5_kind : MethodName := ⟨RX5, "kind", "()I"⟩
abbrev cX5_nextNumber : ByteArray := prog_7_method_13_code
def yX5_nextNumber : MethodName := ⟨RX5, "nextNumber", "(II)Z"⟩
abbrev cX5_nextStop : ByteArray := prog_7_method_14_code
def yX5_nextStop : MethodName := ⟨RX5, "nextStop", "()Z"⟩
abbrev cX5_value : ByteArray := prog_7_method_15_code
def yX5_value : MethodName := ⟨RX5, "value", "()I"⟩
abbrev cX5_lookBehindAll : ByteArray := prog_7_method_16_code
def yX5_lookBehindAll : MethodName := ⟨RX5, "lookBehindAll", "()V"⟩
def RX6 : String := "AsleepPass$Sheets"
def TX6 : u_T := fun k => match k with
  | 0 => ("AsleepPass$Sheets", "lanes", "[I", true)
  | 1 => ("AsleepPass$Sheets", "sizes", "[I", true)
  | 2 => ("AsleepPass$Sheets", "cells", "[[I", true)
  | 3 => ("AsleepPass$Sheets", "found", "I", false)
  | 4 => ("AsleepPass$Sheets", "pairs", "I", false)
  | 5 => ("AsleepPass$Sheets", "firsts", "[I", true)
  | _ => ("AsleepPass$Sheets", "seconds", "[I", true)
def tyX6 : Nat → FieldType := fun k => match k with
  | 0 => .array .int
  | 1 => .array .int
  | 2 => .array (.array .int)
  | 3 => .int
  | 4 => .int
  | 5 => .array .int
  | _ => .array .int
theorem nmX6 : ∀ a, a < 7 → ∀ b, b < 7 → a ≠ b → (TX6 a).2.1 ≠ (TX6 b).2.1 := by decide +kernel
theorem tyX6_ok : ∀ k, k < 7 → parseFieldDescriptor (TX6 k).2.2.1 = some (tyX6 k) := by decide +kernel
abbrev cX6_init : ByteArray := prog_8_method_1_code
def yX6_init : MethodName := ⟨RX6, "<init>", "()V"⟩
abbrev cX6_isSheet : ByteArray := prog_8_method_2_code
def yX6_isSheet : MethodName := ⟨RX6, "isSheet", "(I)Z"⟩
abbrev cX6_isLane : ByteArray := prog_8_method_3_code
def yX6_isLane : MethodName := ⟨RX6, "isLane", "(I)Z"⟩
abbrev cX6_renew : ByteArray := prog_8_method_4_code
def yX6_renew : MethodName := ⟨RX6, "renew", "(III)V"⟩
abbrev cX6_sizeOf : ByteArray := prog_8_method_5_code
def yX6_sizeOf : MethodName := ⟨RX6, "sizeOf", "(I)I"⟩
abbrev cX6_faultAt : ByteArray := prog_8_method_6_code
def yX6_faultAt : MethodName := ⟨RX6, "faultAt", "(IJ)I"⟩
abbrev cX6_fill : ByteArray := prog_8_method_7_code
def yX6_fill : MethodName := ⟨RX6, "fill", "(III)V"⟩
abbrev cX6_takePairs : ByteArray := prog_8_method_8_code
def yX6_takePairs : MethodName := ⟨RX6, "takePairs", "(IIII)V"⟩
def RX7 : String := "AsleepPass$Tape"
def TX7 : u_T := fun k => match k with
  | 0 => ("AsleepPass$Tape", "length", "I", false)
  | _ => ("AsleepPass$Tape", "bytes", "[I", true)
def tyX7 : Nat → FieldType := fun k => match k with
  | 0 => .int
  | _ => .array .int
theorem nmX7 : ∀ a, a < 2 → ∀ b, b < 2 → a ≠ b → (TX7 a).2.1 ≠ (TX7 b).2.1 := by decide +kernel
theorem tyX7_ok : ∀ k, k < 2 → parseFieldDescriptor (TX7 k).2.2.1 = some (tyX7 k) := by decide +kernel
abbrev cX7_init : ByteArray := prog_9_method_1_code
def yX7_init : MethodName := ⟨RX7, "<init>", "()V"⟩
abbrev cX7_addBytes : ByteArray := prog_9_method_2_code
def yX7_addBytes : MethodName := ⟨RX7, "addBytes", "(J)Z"⟩
abbrev cX7_byteAt : ByteArray := prog_9_method_3_code
def yX7_byteAt : MethodName := ⟨RX7, "byteAt", "(I)I"⟩
abbrev cX7_says : ByteArray := prog_9_method_4_code
def yX7_says : MethodName := ⟨RX7, "says", "(IILjava/lang/String;)Z"⟩
abbrev cX7_pastAll : ByteArray := prog_9_method_5_code
def yX7_pastAll : MethodName := ⟨RX7, "pastAll", "(ICC)I"⟩
def RX8 : String := "AsleepPass$Trails"
def TX8 : u_T := fun k => match k with
  | 0 => ("AsleepPass$Trails", "total", "I", false)
  | 1 => ("AsleepPass$Trails", "into", "[[I", true)
  | _ => ("AsleepPass$Trails", "onward", "[[I", true)
def tyX8 : Nat → FieldType := fun k => match k with
  | 0 => .int
  | 1 => .array (.array .int)
  | _ => .array (.array .int)
theorem nmX8 : ∀ a, a < 3 → ∀ b, b < 3 → a ≠ b → (TX8 a).2.1 ≠ (TX8 b).2.1 := by decide +kernel
theorem tyX8_ok : ∀ k, k < 3 → parseFieldDescriptor (TX8 k).2.2.1 = some (tyX8 k) := by decide +kernel
abbrev cX8_init : ByteArray := prog_10_method_1_code
def yX8_init : MethodName := ⟨RX8, "<init>", "()V"⟩
abbrev cX8_explore : ByteArray := prog_10_method_2_code
def yX8_explore : MethodName := ⟨RX8, "explore", "(LAsleepPass$Way;LAsleepPass$Marked;)V"⟩
abbrev cX8_dropUnmarked : ByteArray := prog_10_method_3_code
def yX8_dropUnmarked : MethodName := ⟨RX8, "dropUnmarked", "([ILAsleepPass$Marked;I)V"⟩
abbrev cX8_leadInto : ByteArray := prog_10_method_4_code
def yX8_leadInto : MethodName := ⟨RX8, "leadInto", "(II)V"⟩
abbrev cX8_leadOnward : ByteArray := prog_10_method_5_code
def yX8_leadOnward : MethodName := ⟨RX8, "leadOnward", "(II)V"⟩
abbrev cX8_canBeBehind : ByteArray := prog_10_method_6_code
def yX8_canBeBehind : MethodName := ⟨RX8, "canBeBehind", "(II)Z"⟩
abbrev cX8_falling : ByteArray := prog_10_method_7_code
def yX8_falling : MethodName := ⟨RX8, "falling", "(LAsleepPass$Way;I)I"⟩
abbrev cX8_rising : ByteArray := prog_10_method_8_code
def yX8_rising : MethodName := ⟨RX8, "rising", "(LAsleepPass$Way;I)I"⟩
def RX9 : String := "AsleepPass$Way"
def TX9 : u_T := fun k => match k with
  | 0 => ("AsleepPass$Way", "stretches", "I", false)
  | 1 => ("AsleepPass$Way", "bearers", "I", false)
  | 2 => ("AsleepPass$Way", "startDepth", "I", false)
  | 3 => ("AsleepPass$Way", "noises", "[I", true)
  | 4 => ("AsleepPass$Way", "colds", "[I", true)
  | 5 => ("AsleepPass$Way", "order", "[I", true)
  | 6 => ("AsleepPass$Way", "kinds", "[I", true)
  | 7 => ("AsleepPass$Way", "paces", "[I", true)
  | _ => ("AsleepPass$Way", "warmths", "[I", true)
def tyX9 : Nat → FieldType := fun k => match k with
  | 0 => .int
  | 1 => .int
  | 2 => .int
  | 3 => .array .int
  | 4 => .array .int
  | 5 => .array .int
  | 6 => .array .int
  | 7 => .array .int
  | _ => .array .int
theorem nmX9 : ∀ a, a < 9 → ∀ b, b < 9 → a ≠ b → (TX9 a).2.1 ≠ (TX9 b).2.1 := by decide +kernel
theorem tyX9_ok : ∀ k, k < 9 → parseFieldDescriptor (TX9 k).2.2.1 = some (tyX9 k) := by decide +kernel
abbrev cX9_init : ByteArray := prog_11_method_1_code
def yX9_init : MethodName := ⟨RX9, "<init>", "()V"⟩
abbrev cX9_clear : ByteArray := prog_11_method_2_code
def yX9_clear : MethodName := ⟨RX9, "clear", "()V"⟩
abbrev cX9_copyOf : ByteArray := prog_11_method_3_code
def yX9_copyOf : MethodName := ⟨RX9, "copyOf", "(LAsleepPass$Way;)V"⟩
abbrev cX9_hasStretch : ByteArray := prog_11_method_4_code
def yX9_hasStretch : MethodName := ⟨RX9, "hasStretch", "(I)Z"⟩
abbrev cX9_hasBearer : ByteArray := prog_11_method_5_code
def yX9_hasBearer : MethodName := ⟨RX9, "hasBearer", "(I)Z"⟩
abbrev cX9_addStretch : ByteArray := prog_11_method_6_code
def yX9_addStretch : MethodName := ⟨RX9, "addStretch", "(II)V"⟩
abbrev cX9_addBearer : ByteArray := prog_11_method_7_code
def yX9_addBearer : MethodName := ⟨RX9, "addBearer", "(III)V"⟩
abbrev cX9_canHand : ByteArray := prog_11_method_8_code
def yX9_canHand : MethodName := ⟨RX9, "canHand", "(III)Z"⟩
abbrev cX9_harmBy : ByteArray := prog_11_method_9_code
def yX9_harmBy : MethodName := ⟨RX9, "harmBy", "(III)I"⟩
abbrev cX9_noiseBy : ByteArray := prog_11_method_10_code
def yX9_noiseBy : MethodName := ⟨RX9, "noiseBy", "(II)I"⟩
abbrev cX9_coldBy : ByteArray := prog_11_method_11_code
def yX9_coldBy : MethodName := ⟨RX9, "coldBy", "(II)I"⟩
abbrev cX9_joltBy : ByteArray := prog_11_method_12_code
def yX9_joltBy : MethodName := ⟨RX9, "joltBy", "(II)I"⟩
abbrev cX9_harmInOrder : ByteArray := prog_11_method_13_code
def yX9_harmInOrder : MethodName := ⟨RX9, "harmInOrder", "(I)I"⟩
abbrev cX9_exchange : ByteArray := prog_11_method_14_code
def yX9_exchange : MethodName := ⟨RX9, "exchange", "(II)V"⟩
abbrev cX9_handOvers : ByteArray := prog_11_method_15_code
def yX9_handOvers : MethodName := ⟨RX9, "handOvers", "()I"⟩
def RX10 : String := "AsleepPass"
def TX10 : u_T := fun k => match k with
  | 0 => ("AsleepPass", "reader", "LAsleepPass$Reader;", true)
  | 1 => ("AsleepPass", "way", "LAsleepPass$Way;", true)
  | 2 => ("AsleepPass", "trial", "LAsleepPass$Way;", true)
  | 3 => ("AsleepPass", "images", "[LAsleepPass$Way;", true)
  | 4 => ("AsleepPass", "kept", "[Z", true)
  | 5 => ("AsleepPass", "odds", "LAsleepPass$Odds;", true)
  | 6 => ("AsleepPass", "choice", "LAsleepPass$Choice;", true)
  | 7 => ("AsleepPass", "crossing", "LAsleepPass$Crossing;", true)
  | 8 => ("AsleepPass", "learnt", "LAsleepPass$Learnt;", true)
  | 9 => ("AsleepPass", "marked", "LAsleepPass$Marked;", true)
  | 10 => ("AsleepPass", "trails", "LAsleepPass$Trails;", true)
  | 11 => ("AsleepPass", "sheets", "LAsleepPass$Sheets;", true)
  | 12 => ("AsleepPass", "textFault", "I", false)
  | _ => ("AsleepPass", "readFault", "I", false)
def tyX10 : Nat → FieldType := fun k => match k with
  | 0 => .object "AsleepPass$Reader"
  | 1 => .object "AsleepPass$Way"
  | 2 => .object "AsleepPass$Way"
  | 3 => .array (.object "AsleepPass$Way")
  | 4 => .array .boolean
  | 5 => .object "AsleepPass$Odds"
  | 6 => .object "AsleepPass$Choice"
  | 7 => .object "AsleepPass$Crossing"
  | 8 => .object "AsleepPass$Learnt"
  | 9 => .object "AsleepPass$Marked"
  | 10 => .object "AsleepPass$Trails"
  | 11 => .object "AsleepPass$Sheets"
  | 12 => .int
  | _ => .int
theorem nmX10 : ∀ a, a < 14 → ∀ b, b < 14 → a ≠ b → (TX10 a).2.1 ≠ (TX10 b).2.1 := by decide +kernel
theorem tyX10_ok : ∀ k, k < 14 → parseFieldDescriptor (TX10 k).2.2.1 = some (tyX10 k) := by decide +kernel
abbrev cX10_init : ByteArray := prog_1_method_1_code
def yX10_init : MethodName := ⟨RX10, "<init>", "()V"⟩
abbrev cX10_feed : ByteArray := prog_1_method_2_code
def yX10_feed : MethodName := ⟨RX10, "feed", "(J)I"⟩
abbrev cX10_end : ByteArray := prog_1_method_3_code
def yX10_end : MethodName := ⟨RX10, "end", "(I)I"⟩
abbrev cX10_text : ByteArray := prog_1_method_4_code
def yX10_text : MethodName := ⟨RX10, "text", "()I"⟩
abbrev cX10_fault : ByteArray := prog_1_method_5_code
def yX10_fault : MethodName := ⟨RX10, "fault", "()I"⟩
abbrev cX10_rule : ByteArray := prog_1_method_6_code
def yX10_rule : MethodName := ⟨RX10, "rule", "(I)I"⟩
abbrev cX10_stretch : ByteArray := prog_1_method_7_code
def yX10_stretch : MethodName := ⟨RX10, "stretch", "(II)I"⟩
abbrev cX10_bearer : ByteArray := prog_1_method_8_code
def yX10_bearer : MethodName := ⟨RX10, "bearer", "(II)I"⟩
abbrev cX10_start : ByteArray := prog_1_method_9_code
def yX10_start : MethodName := ⟨RX10, "start", "(I)I"⟩
abbrev cX10_noise : ByteArray := prog_1_method_10_code
def yX10_noise : MethodName := ⟨RX10, "noise", "(II)I"⟩
abbrev cX10_cold : ByteArray := prog_1_method_11_code
def yX10_cold : MethodName := ⟨RX10, "cold", "(II)I"⟩
abbrev cX10_step : ByteArray := prog_1_method_12_code
def yX10_step : MethodName := ⟨RX10, "step", "(II)I"⟩
abbrev cX10_warm : ByteArray := prog_1_method_13_code
def yX10_warm : MethodName := ⟨RX10, "warm", "(II)I"⟩
abbrev cX10_put : ByteArray := prog_1_method_14_code
def yX10_put : MethodName := ⟨RX10, "put", "(II)I"⟩
abbrev cX10_change : ByteArray := prog_1_method_15_code
def yX10_change : MethodName := ⟨RX10, "change", "([III)I"⟩
abbrev cX10_harm : ByteArray := prog_1_method_16_code
def yX10_harm : MethodName := ⟨RX10, "harm", "(III)I"⟩
abbrev cX10_wakes : ByteArray := prog_1_method_17_code
def yX10_wakes : MethodName := ⟨RX10, "wakes", "(I)J"⟩
abbrev cX10_awake : ByteArray := prog_1_method_18_code
def yX10_awake : MethodName := ⟨RX10, "awake", "(II)J"⟩
abbrev cX10_depth : ByteArray := prog_1_method_19_code
def yX10_depth : MethodName := ⟨RX10, "depth", "(III)J"⟩
abbrev cX10_best : ByteArray := prog_1_method_20_code
def yX10_best : MethodName := ⟨RX10, "best", "(I)J"⟩
abbrev cX10_next : ByteArray := prog_1_method_21_code
def yX10_next : MethodName := ⟨RX10, "next", "(III)I"⟩
abbrev cX10_without : ByteArray := prog_1_method_22_code
def yX10_without : MethodName := ⟨RX10, "without", "(II)J"⟩
abbrev cX10_quiet : ByteArray := prog_1_method_23_code
def yX10_quiet : MethodName := ⟨RX10, "quiet", "(II)J"⟩
abbrev cX10_stopNoises : ByteArray := prog_1_method_24_code
def yX10_stopNoises : MethodName := ⟨RX10, "stopNoises", "(I)V"⟩
abbrev cX10_drop : ByteArray := prog_1_method_25_code
def yX10_drop : MethodName := ⟨RX10, "drop", "(I)J"⟩
abbrev cX10_swap : ByteArray := prog_1_method_26_code
def yX10_swap : MethodName := ⟨RX10, "swap", "(I)J"⟩
abbrev cX10_carry : ByteArray := prog_1_method_27_code
def yX10_carry : MethodName := ⟨RX10, "carry", "(II)I"⟩
abbrev cX10_learn : ByteArray := prog_1_method_28_code
def yX10_learn : MethodName := ⟨RX10, "learn", "(IIII)I"⟩
abbrev cX10_forget : ByteArray := prog_1_method_29_code
def yX10_forget : MethodName := ⟨RX10, "forget", "(I)I"⟩
abbrev cX10_steps : ByteArray := prog_1_method_30_code
def yX10_steps : MethodName := ⟨RX10, "steps", "(II)I"⟩
abbrev cX10_mark : ByteArray := prog_1_method_31_code
def yX10_mark : MethodName := ⟨RX10, "mark", "(II)I"⟩
abbrev cX10_wipe : ByteArray := prog_1_method_32_code
def yX10_wipe : MethodName := ⟨RX10, "wipe", "(I)I"⟩
abbrev cX10_paths : ByteArray := prog_1_method_33_code
def yX10_paths : MethodName := ⟨RX10, "paths", "()I"⟩
abbrev cX10_eye : ByteArray := prog_1_method_34_code
def yX10_eye : MethodName := ⟨RX10, "eye", "(I)I"⟩
abbrev cX10_sure : ByteArray := prog_1_method_35_code
def yX10_sure : MethodName := ⟨RX10, "sure", "(I)I"⟩
abbrev cX10_keep : ByteArray := prog_1_method_36_code
def yX10_keep : MethodName := ⟨RX10, "keep", "(I)I"⟩
abbrev cX10_back : ByteArray := prog_1_method_37_code
def yX10_back : MethodName := ⟨RX10, "back", "(I)I"⟩
abbrev cX10_sheet : ByteArray := prog_1_method_38_code
def yX10_sheet : MethodName := ⟨RX10, "sheet", "(III)I"⟩
abbrev cX10_lay : ByteArray := prog_1_method_39_code
def yX10_lay : MethodName := ⟨RX10, "lay", "(III)I"⟩
abbrev cX10_read : ByteArray := prog_1_method_40_code
def yX10_read : MethodName := ⟨RX10, "read", "(IIII)I"⟩
abbrev cX10_torn : ByteArray := prog_1_method_41_code
def yX10_torn : MethodName := ⟨RX10, "torn", "()I"⟩
abbrev cX10_count : ByteArray := prog_1_method_42_code
def yX10_count : MethodName := ⟨RX10, "count", "(I)I"⟩
abbrev cX10_isFractionPart : ByteArray := prog_1_method_43_code
def yX10_isFractionPart : MethodName := ⟨RX10, "isFractionPart", "(I)Z"⟩
abbrev cX10_isAnswerPart : ByteArray := prog_1_method_44_code
def yX10_isAnswerPart : MethodName := ⟨RX10, "isAnswerPart", "(I)Z"⟩
abbrev cX10_isDepth : ByteArray := prog_1_method_45_code
def yX10_isDepth : MethodName := ⟨RX10, "isDepth", "(I)Z"⟩
abbrev cX10_isImage : ByteArray := prog_1_method_46_code
def yX10_isImage : MethodName := ⟨RX10, "isImage", "(I)Z"⟩
abbrev cX10_fraction : ByteArray := prog_1_method_47_code
def yX10_fraction : MethodName := ⟨RX10, "fraction", "(JJI)J"⟩
abbrev cX10_commonDivisor : ByteArray := prog_1_method_48_code
def yX10_commonDivisor : MethodName := ⟨RX10, "commonDivisor", "(JJ)J"⟩
def RX11 : String := "AsleepPassModel"
def TX11 : u_T := fun k => match k with
  | 0 => ("AsleepPassModel", "state", "[I", true)
  | 1 => ("AsleepPassModel", "stretchMany", "I", false)
  | 2 => ("AsleepPassModel", "bearerMany", "I", false)
  | 3 => ("AsleepPassModel", "readPage", "[I", true)
  | 4 => ("AsleepPassModel", "readStretches", "I", false)
  | 5 => ("AsleepPassModel", "readBearers", "I", false)
  | 6 => ("AsleepPassModel", "hasStart", "Z", false)
  | 7 => ("AsleepPassModel", "carried", "I", false)
  | 8 => ("AsleepPassModel", "highStretch", "I", false)
  | 9 => ("AsleepPassModel", "highBearer", "I", false)
  | 10 => ("AsleepPassModel", "tape", "[I", true)
  | 11 => ("AsleepPassModel", "taped", "I", false)
  | 12 => ("AsleepPassModel", "fault", "I", false)
  | 13 => ("AsleepPassModel", "broken", "I", false)
  | 14 => ("AsleepPassModel", "brokenAt", "I", false)
  | 15 => ("AsleepPassModel", "spot", "I", false)
  | 16 => ("AsleepPassModel", "here", "I", false)
  | 17 => ("AsleepPassModel", "token", "I", false)
  | 18 => ("AsleepPassModel", "value", "I", false)
  | 19 => ("AsleepPassModel", "cuts", "[I", true)
  | 20 => ("AsleepPassModel", "letters", "[I", true)
  | 21 => ("AsleepPassModel", "odds", "[J", true)
  | 22 => ("AsleepPassModel", "then", "[J", true)
  | 23 => ("AsleepPassModel", "bests", "[J", true)
  | 24 => ("AsleepPassModel", "learnt", "[I", true)
  | 25 => ("AsleepPassModel", "learntMany", "I", false)
  | 26 => ("AsleepPassModel", "marks", "[I", true)
  | 27 => ("AsleepPassModel", "markMany", "I", false)
  | 28 => ("AsleepPassModel", "ahead", "[I", true)
  | 29 => ("AsleepPassModel", "behind", "[I", true)
  | 30 => ("AsleepPassModel", "isKept", "[Z", true)
  | 31 => ("AsleepPassModel", "lanes", "[I", true)
  | 32 => ("AsleepPassModel", "lengths", "[I", true)
  | 33 => ("AsleepPassModel", "cells", "[I", true)
  | _ => ("AsleepPassModel", "torn", "I", false)
def tyX11 : Nat → FieldType := fun k => match k with
  | 0 => .array .int
  | 1 => .int
  | 2 => .int
  | 3 => .array .int
  | 4 => .int
  | 5 => .int
  | 6 => .boolean
  | 7 => .int
  | 8 => .int
  | 9 => .int
  | 10 => .array .int
  | 11 => .int
  | 12 => .int
  | 13 => .int
  | 14 => .int
  | 15 => .int
  | 16 => .int
  | 17 => .int
  | 18 => .int
  | 19 => .array .int
  | 20 => .array .int
  | 21 => .array .long
  | 22 => .array .long
  | 23 => .array .long
  | 24 => .array .int
  | 25 => .int
  | 26 => .array .int
  | 27 => .int
  | 28 => .array .int
  | 29 => .array .int
  | 30 => .array .boolean
  | 31 => .array .int
  | 32 => .array .int
  | 33 => .array .int
  | _ => .int
theorem nmX11 : ∀ a, a < 35 → ∀ b, b < 35 → a ≠ b → (TX11 a).2.1 ≠ (TX11 b).2.1 := by decide +kernel
theorem tyX11_ok : ∀ k, k < 35 → parseFieldDescriptor (TX11 k).2.2.1 = some (tyX11 k) := by decide +kernel
abbrev cX11_init : ByteArray := prog_13_method_1_code
def yX11_init : MethodName := ⟨RX11, "<init>", "()V"⟩
abbrev cX11_in : ByteArray := prog_13_method_3_code
def yX11_in : MethodName := ⟨RX11, "in", "(JJJ)Z"⟩
abbrev cX11_feed : ByteArray := prog_13_method_4_code
def yX11_feed : MethodName := ⟨RX11, "feed", "(J)I"⟩
abbrev cX11_end : ByteArray := prog_13_method_5_code
def yX11_end : MethodName := ⟨RX11, "end", "(I)I"⟩
abbrev cX11_byteAt : ByteArray := prog_13_method_6_code
def yX11_byteAt : MethodName := ⟨RX11, "byteAt", "(I)I"⟩
abbrev cX11_fails : ByteArray := prog_13_method_7_code
def yX11_fails : MethodName := ⟨RX11, "fails", "(I)V"⟩
abbrev cX11_nameHere : ByteArray := prog_13_method_8_code
def yX11_nameHere : MethodName := ⟨RX11, "nameHere", "()I"⟩
abbrev cX11_goesOn : ByteArray := prog_13_method_9_code
def yX11_goesOn : MethodName := ⟨RX11, "goesOn", "()V"⟩
abbrev cX11_other : ByteArray := prog_13_method_10_code
def yX11_other : MethodName := ⟨RX11, "other", "(III)I"⟩
abbrev cX11_readBearer : ByteArray := prog_13_method_11_code
def yX11_readBearer : MethodName := ⟨RX11, "readBearer", "()V"⟩
abbrev cX11_readMore : ByteArray := prog_13_method_12_code
def yX11_readMore : MethodName := ⟨RX11, "readMore", "(I)V"⟩
abbrev cX11_readLine : ByteArray := prog_13_method_13_code
def yX11_readLine : MethodName := ⟨RX11, "readLine", "()V"⟩
abbrev cX11_text : ByteArray := prog_13_method_14_code
def yX11_text : MethodName := ⟨RX11, "text", "()I"⟩
abbrev cX11_fault : ByteArray := prog_13_method_15_code
def yX11_fault : MethodName := ⟨RX11, "fault", "()I"⟩
abbrev cX11_isStretch : ByteArray := prog_13_method_16_code
def yX11_isStretch : MethodName := ⟨RX11, "isStretch", "(I)Z"⟩
abbrev cX11_isBearer : ByteArray := prog_13_method_17_code
def yX11_isBearer : MethodName := ⟨RX11, "isBearer", "(I)Z"⟩
abbrev cX11_startNow : ByteArray := prog_13_method_18_code
def yX11_startNow : MethodName := ⟨RX11, "startNow", "()I"⟩
abbrev cX11_rule : ByteArray := prog_13_method_19_code
def yX11_rule : MethodName := ⟨RX11, "rule", "(I)I"⟩
abbrev cX11_stretch : ByteArray := prog_13_method_20_code
def yX11_stretch : MethodName := ⟨RX11, "stretch", "(II)I"⟩
abbrev cX11_bearer : ByteArray := prog_13_method_21_code
def yX11_bearer : MethodName := ⟨RX11, "bearer", "(II)I"⟩
abbrev cX11_sets : ByteArray := prog_13_method_22_code
def yX11_sets : MethodName := ⟨RX11, "sets", "(ZII)I"⟩
abbrev cX11_start : ByteArray := prog_13_method_23_code
def yX11_start : MethodName := ⟨RX11, "start", "(I)I"⟩
abbrev cX11_noise : ByteArray := prog_13_method_24_code
def yX11_noise : MethodName := ⟨RX11, "noise", "(II)I"⟩
abbrev cX11_cold : ByteArray := prog_13_method_25_code
def yX11_cold : MethodName := ⟨RX11, "cold", "(II)I"⟩
abbrev cX11_step : ByteArray := prog_13_method_26_code
def yX11_step : MethodName := ⟨RX11, "step", "(II)I"⟩
abbrev cX11_warm : ByteArray := prog_13_method_27_code
def yX11_warm : MethodName := ⟨RX11, "warm", "(II)I"⟩
abbrev cX11_puts : ByteArray := prog_13_method_28_code
def yX11_puts : MethodName := ⟨RX11, "puts", "(II)I"⟩
abbrev cX11_put : ByteArray := prog_13_method_29_code
def yX11_put : MethodName := ⟨RX11, "put", "(II)I"⟩
abbrev cX11_kindOf : ByteArray := prog_13_method_30_code
def yX11_kindOf : MethodName := ⟨RX11, "kindOf", "(I)I"⟩
abbrev cX11_harmOf : ByteArray := prog_13_method_31_code
def yX11_harmOf : MethodName := ⟨RX11, "harmOf", "(IIIZ)I"⟩
abbrev cX11_canHarm : ByteArray := prog_13_method_32_code
def yX11_canHarm : MethodName := ⟨RX11, "canHarm", "(III)Z"⟩
abbrev cX11_harm : ByteArray := prog_13_method_33_code
def yX11_harm : MethodName := ⟨RX11, "harm", "(III)I"⟩
abbrev cX11_orderedHarm : ByteArray := prog_13_method_34_code
def yX11_orderedHarm : MethodName := ⟨RX11, "orderedHarm", "(IZ)I"⟩
abbrev cX11_power : ByteArray := prog_13_method_35_code
def yX11_power : MethodName := ⟨RX11, "power", "(I)J"⟩
abbrev cX11_deeper : ByteArray := prog_13_method_36_code
def yX11_deeper : MethodName := ⟨RX11, "deeper", "(II)I"⟩
abbrev cX11_layOdds : ByteArray := prog_13_method_37_code
def yX11_layOdds : MethodName := ⟨RX11, "layOdds", "(III)V"⟩
abbrev cX11_lowest : ByteArray := prog_13_method_38_code
def yX11_lowest : MethodName := ⟨RX11, "lowest", "(JJI)J"⟩
abbrev cX11_wakes : ByteArray := prog_13_method_39_code
def yX11_wakes : MethodName := ⟨RX11, "wakes", "(I)J"⟩
abbrev cX11_awake : ByteArray := prog_13_method_40_code
def yX11_awake : MethodName := ⟨RX11, "awake", "(II)J"⟩
abbrev cX11_depth : ByteArray := prog_13_method_41_code
def yX11_depth : MethodName := ⟨RX11, "depth", "(III)J"⟩
abbrev cX11_bestAt : ByteArray := prog_13_method_42_code
def yX11_bestAt : MethodName := ⟨RX11, "bestAt", "(III)I"⟩
abbrev cX11_byOne : ByteArray := prog_13_method_43_code
def yX11_byOne : MethodName := ⟨RX11, "byOne", "(IIII)J"⟩
abbrev cX11_layBest : ByteArray := prog_13_method_44_code
def yX11_layBest : MethodName := ⟨RX11, "layBest", "(I)V"⟩
abbrev cX11_best : ByteArray := prog_13_method_45_code
def yX11_best : MethodName := ⟨RX11, "best", "(I)J"⟩
abbrev cX11_next : ByteArray := prog_13_method_46_code
def yX11_next : MethodName := ⟨RX11, "next", "(III)I"⟩
abbrev cX11_without : ByteArray := prog_13_method_47_code
def yX11_without : MethodName := ⟨RX11, "without", "(II)J"⟩
abbrev cX11_bitsOf : ByteArray := prog_13_method_48_code
def yX11_bitsOf : MethodName := ⟨RX11, "bitsOf", "(I)I"⟩
abbrev cX11_quiet : ByteArray := prog_13_method_49_code
def yX11_quiet : MethodName := ⟨RX11, "quiet", "(II)J"⟩
abbrev cX11_drop : ByteArray := prog_13_method_50_code
def yX11_drop : MethodName := ⟨RX11, "drop", "(I)J"⟩
abbrev cX11_changes : ByteArray := prog_13_method_51_code
def yX11_changes : MethodName := ⟨RX11, "changes", "(II)V"⟩
abbrev cX11_swap : ByteArray := prog_13_method_52_code
def yX11_swap : MethodName := ⟨RX11, "swap", "(I)J"⟩
abbrev cX11_carry : ByteArray := prog_13_method_53_code
def yX11_carry : MethodName := ⟨RX11, "carry", "(II)I"⟩
abbrev cX11_learn : ByteArray := prog_13_method_54_code
def yX11_learn : MethodName := ⟨RX11, "learn", "(IIII)I"⟩
abbrev cX11_forget : ByteArray := prog_13_method_55_code
def yX11_forget : MethodName := ⟨RX11, "forget", "(I)I"⟩
abbrev cX11_steps : ByteArray := prog_13_method_56_code
def yX11_steps : MethodName := ⟨RX11, "steps", "(II)I"⟩
abbrev cX11_mark : ByteArray := prog_13_method_57_code
def yX11_mark : MethodName := ⟨RX11, "mark", "(II)I"⟩
abbrev cX11_wipe : ByteArray := prog_13_method_58_code
def yX11_wipe : MethodName := ⟨RX11, "wipe", "(I)I"⟩
abbrev cX11_isMarked : ByteArray := prog_13_method_59_code
def yX11_isMarked : MethodName := ⟨RX11, "isMarked", "(II)Z"⟩
abbrev cX11_depthThen : ByteArray := prog_13_method_60_code
def yX11_depthThen : MethodName := ⟨RX11, "depthThen", "(IIZ)I"⟩
abbrev cX11_layPaths : ByteArray := prog_13_method_61_code
def yX11_layPaths : MethodName := ⟨RX11, "layPaths", "()V"⟩
abbrev cX11_onward : ByteArray := prog_13_method_62_code
def yX11_onward : MethodName := ⟨RX11, "onward", "(IIZ)I"⟩
abbrev cX11_paths : ByteArray := prog_13_method_63_code
def yX11_paths : MethodName := ⟨RX11, "paths", "()I"⟩
abbrev cX11_eye : ByteArray := prog_13_method_64_code
def yX11_eye : MethodName := ⟨RX11, "eye", "(I)I"⟩
abbrev cX11_sure : ByteArray := prog_13_method_65_code
def yX11_sure : MethodName := ⟨RX11, "sure", "(I)I"⟩
abbrev cX11_copies : ByteArray := prog_13_method_66_code
def yX11_copies : MethodName := ⟨RX11, "copies", "(II)V"⟩
abbrev cX11_keep : ByteArray := prog_13_method_67_code
def yX11_keep : MethodName := ⟨RX11, "keep", "(I)I"⟩
abbrev cX11_back : ByteArray := prog_13_method_68_code
def yX11_back : MethodName := ⟨RX11, "back", "(I)I"⟩
abbrev cX11_sheet : ByteArray := prog_13_method_69_code
def yX11_sheet : MethodName := ⟨RX11, "sheet", "(III)I"⟩
abbrev cX11_lay : ByteArray := prog_13_method_70_code
def yX11_lay : MethodName := ⟨RX11, "lay", "(III)I"⟩
abbrev cX11_read : ByteArray := prog_13_method_71_code
def yX11_read : MethodName := ⟨RX11, "read", "(IIII)I"⟩
abbrev cX11_torn : ByteArray := prog_13_method_72_code
def yX11_torn : MethodName := ⟨RX11, "torn", "()I"⟩
abbrev cX11_count : ByteArray := prog_13_method_73_code
def yX11_count : MethodName := ⟨RX11, "count", "(I)I"⟩
def RJ6 : String := "java/lang/Integer"
abbrev cJ6_bitCount_0f7a4 : ByteArray := prog_14_method_49_code
def yJ6_bitCount_0f7a4 : MethodName := ⟨RJ6, "bitCount", "(I)I"⟩
def RJ9 : String := "java/lang/Math"
abbrev cJ9_abs_0f7a4 : ByteArray := prog_15_method_59_code
def yJ9_abs_0f7a4 : MethodName := ⟨RJ9, "abs", "(I)I"⟩
abbrev cJ9_max_7cf53 : ByteArray := prog_15_method_65_code
def yJ9_max_7cf53 : MethodName := ⟨RJ9, "max", "(II)I"⟩
abbrev cJ9_min_7cf53 : ByteArray := prog_15_method_69_code
def yJ9_min_7cf53 : MethodName := ⟨RJ9, "min", "(II)I"⟩
def RJ0 : String := "java/lang/String"
abbrev cJ0_length_8abf5 : ByteArray := prog_16_method_54_code
def yJ0_length_8abf5 : MethodName := ⟨RJ0, "length", "()I"⟩
abbrev cJ0_charAt_5068e : ByteArray := prog_16_method_56_code
def yJ0_charAt_5068e : MethodName := ⟨RJ0, "charAt", "(I)C"⟩
abbrev cJ0_coder_7d493 : ByteArray := prog_16_method_152_code
def yJ0_coder_7d493 : MethodName := ⟨RJ0, "coder", "()B"⟩
abbrev cJ0_isLatin1_aae02 : ByteArray := prog_16_method_154_code
def yJ0_isLatin1_aae02 : MethodName := ⟨RJ0, "isLatin1", "()Z"⟩
abbrev cJ0_checkIndex_df160 : ByteArray := prog_16_method_155_code
def yJ0_checkIndex_df160 : MethodName := ⟨RJ0, "checkIndex", "(II)V"⟩
def RJ1 : String := "java/lang/StringLatin1"
abbrev cJ1_charAt_3b067 : ByteArray := prog_17_method_2_code
def yJ1_charAt_3b067 : MethodName := ⟨RJ1, "charAt", "([BI)C"⟩
def RJ3 : String := "jdk/internal/util/Preconditions"
abbrev cJ3_checkIndex_8e157 : ByteArray := prog_20_method_11_code
def yJ3_checkIndex_8e157 : MethodName := ⟨RJ3, "checkIndex", "(IILjava/util/function/BiFunction;)I"⟩
def RL : String := "AsleepPassLaw"
abbrev cL_law : ByteArray := code
abbrev vwCl : List vw_C := [(RX0, TX0, 3), (RX1, TX1, 3), (RX2, TX2, 5), (RX3, TX3, 3), (RX4, TX4, 3), (RX5, TX5, 12), (RX6, TX6, 7), (RX7, TX7, 2), (RX8, TX8, 3), (RX9, TX9, 9), (RX10, TX10, 14), (RX11, TX11, 35)]

def va_AOA (ty : FieldType) (U : State) : Prop := (Cond.arrayOver (.array ty)).before #[] U = true
theorem va_AOA.use {ty : FieldType} {A : Array Value} {U : State} (h : va_AOA ty U) : (Cond.arrayOver (.array ty)).before A U = true := h
/-! ===== BEGIN new T[n][m]: the outer array a place, the inner ones among the pooled ===== -/
/-- f, but v at every address of l -/
def vr_up {α : Type} (f : Nat → α) (l : List Nat) (v : α) : Nat → α := fun a => if a ∈ l then v else f a
theorem vr_up_in {α : Type} {f : Nat → α} {l : List Nat} {v : α} {a : Nat} (h : a ∈ l) : vr_up f l v a = v := if_pos h
theorem vr_up_ne {α : Type} {f : Nat → α} {l : List Nat} {v : α} {a : Nat} (h : a ∉ l) : vr_up f l v a = f a := if_neg h
theorem vr_rows {L l : List Nat} {f : Nat → va_E} {e : va_E} (h : ∀ a, a ∈ l → a ∉ L) : va_pl L f ++ l.map (fun a => (a, e)) = va_pl (L ++ l) (vr_up f l e) := by
  unfold va_pl
  rw [List.map_append]
  congr 1
  · apply List.map_congr_left
    intro a ha
    rw [vr_up_ne (fun q => h a q ha)]
  · apply List.map_congr_left
    intro a ha
    rw [vr_up_in ha]
theorem vr_lay {X rows : va_W} {x : Nat × va_E} {pl : va_W} {D : va_G} {cl : List vw_C} {H : Heap} (hP : va_P D cl (((X ++ pl) ++ [x]) ++ rows) H) : va_P D cl ((X ++ [x]) ++ (pl ++ rows)) H := by
  rw [List.append_assoc (X ++ pl)] at hP
  have h := va_P.swap hP
  rw [← List.append_assoc X] at h
  have h2 := va_P.swap h
  rw [List.append_assoc (X ++ [x])] at h2
  exact h2
theorem vr_layD {X rows : va_W} {x : Nat × va_E} {pl : va_W} {A : Nat → Prop} (hD : va_D A (((X ++ pl) ++ [x]) ++ rows)) : va_D A ((X ++ [x]) ++ (pl ++ rows)) := by
  rw [List.append_assoc (X ++ pl)] at hD
  have h := va_D.swap hD
  rw [← List.append_assoc X] at h
  have h2 := va_D.swap h
  rw [List.append_assoc (X ++ [x])] at h2
  exact h2
theorem vr_outer (c : ClassId) (N h0 : Nat) : ∀ i : Nat, Jvm.Free.Multi.outerC c N h0 i = arrV c N (fun j => va_rf (if j < i then some (h0 + 1 + j) else none))
  | 0 => by
    show ({ cls := c, slots := Array.replicate N .null, vm := .none } : Cell) = _
    rw [arrV_new]
    refine congrArg (arrV c N) (funext fun j => ?_)
    simp [va_rf]
  | i + 1 => by
    show (Jvm.Free.Multi.outerC c N h0 i).setSlot i (.ref (h0 + 1 + i)) = _
    rw [vr_outer c N h0 i, arrV_store]
    refine congrArg (arrV c N) (funext fun j => ?_)
    by_cases e : j = i
    · subst e
      simp [updV, va_rf]
    · by_cases h : j < i
      · simp [updV, e, h, Nat.lt_succ_of_lt h]
      · simp [updV, e, h, show ¬ j < i + 1 by omega]
section VGM
variable {p : Program} {l : Launch} {e : Env} {R : Room} {s : State} {m : MethodId} {args : Array Value} {below : List Frame} {meth : Method} {c : Code} {H : Heap} {locs : List Loc} {cells slots : Nat} {Q : State → Prop}
variable {cc : ByteArray} {pc : Nat} {ls : Array Slot} {rest : List Value} {D : va_G} {cl : List vw_C} {A : Nat → Prop} {a : Nat} {tys : List (ClassId × FieldType)} {ws : va_W} {H0 : Heap}
theorem va_mna {X : va_W} {L : List Nat} {f : Nat → va_E} {cc : ByteArray} (hexec : p.tables.exec = Jvm.exec) (hb : c.code = cc) {own : String} {index : Nat} {ty : FieldType} {cy : ClassId} (hown : s.vm.findClass own = some m.cls) (hclink : (Cond.classLink own index ("[" ++ (FieldType.array ty).toString)).before args s = true) (hover : va_AOA ty s) (harr : (Cond.arrayClass ty).before args s = true) (hcy : s.vm.findClass (FieldType.array ty).toString = some cy)
    (hK : va_K D cl tys s) (hP : va_P D cl (X ++ va_pl L f) H) (hD : va_D A (X ++ va_pl L f)) (hS : va_S A H0 H locs) (hA : ∀ q, H0.size ≤ q → A q) {n k : Int32} {N' K' : Nat} {z : vp_A} (hn : ¬ n < 0) (hk : ¬ k < 0) (hN : n.toNatClampNeg = N') (hM : k.toNatClampNeg = K')
    (hb1 : N' * 4 ≤ 536870912) (hb2 : K' * componentBytes ty ≤ 536870912) (hb3 : K' ≤ 536870912) (hdf : fits ty (defaultValue ty) = true) (hdd : (defaultValue ty).isDefault = true) (hcells : cells + (1 + N') ≤ R.cells) (hslots : slots + (N' + N' * K') ≤ R.slots) (hz : ∀ c : ClassId, Jvm.Free.Multi.innerC c K' (defaultValue ty) = vp_cell c z) (hdg : decode cc pc = .ok (.multianewarray index 2, 4))
    (kk : ∀ (q : Nat) (r : Nat → Nat) (cA : ClassId) (H1 : Heap), (∀ i j : Nat, i < N' → j < N' → r i = r j → i = j) → (∀ i : Nat, i < N' → r i ∉ L) → va_K D cl (tys ++ [(cA, .array ty)]) s →
      va_P D cl ((X ++ [(q, .inl (cA, N', .inr (.inr (.inr (.inr (fun i => if i < N' then some (r i) else none))))))]) ++ va_pl (L ++ (List.range N').map r) (vr_up f ((List.range N').map r) (.inl (cy, z)))) H1 → va_D A ((X ++ [(q, .inl (cA, N', .inr (.inr (.inr (.inr (fun i => if i < N' then some (r i) else none))))))]) ++ va_pl (L ++ (List.range N').map r) (vr_up f ((List.range N').map r) (.inl (cy, z)))) → va_S A H0 H1 locs →
      W p l e R s m args below meth c H1 locs (cells + 1 + N') (slots + N' + N' * K') Q (F0 m (pc + 4) ls (.ref q :: rest))) : W p l e R s m args below meth c H locs cells slots Q (F0 m pc ls (.int k :: .int n :: rest)) := by
  subst hN
  subst hM
  intro T hT Xs
  obtain ⟨vm₁, cA, comp, -, fA, fC, hO, -, X', step⟩ := Xs.multianewarray2F hexec hown hclink (va_AOA.use hover) harr (g := F0 m pc ls (.int k :: .int n :: rest)) rfl (by rw [hb]; exact hdg) rfl hn hk hb1 hb2 hb3 hdf hdd hcells hslots
  have ec : some cy = some comp := hcy.symm.trans fC
  cases ec
  generalize hF : Jvm.Free.Multi.fill (T.setVm vm₁) cA cy n.toNatClampNeg k.toNatClampNeg (defaultValue ty) n.toNatClampNeg = F at X' step
  have hTh : (T.setVm vm₁).heap = H := hT
  obtain ⟨f1, f2, -, -⟩ := Jvm.Free.Multi.fill_facts (T.setVm vm₁) cA cy n.toNatClampNeg k.toNatClampNeg (defaultValue ty) n.toNatClampNeg
  rw [hF, hTh] at f1 f2
  have hold : ∀ x : Nat, x < H.size → F.heap[x]? = H[x]? := fun x hx => by
    have := Jvm.Free.Multi.fill_old (T.setVm vm₁) cA cy n.toNatClampNeg k.toNatClampNeg (defaultValue ty) (a := x) (by rw [hTh]; exact hx) n.toNatClampNeg
    rw [hF, hTh] at this
    exact this
  have hrow : ∀ j : Nat, j < n.toNatClampNeg → F.heap[H.size + 1 + j]? = some (vp_cell cy z) := fun j hj => by
    have := Jvm.Free.Multi.fill_inner (T.setVm vm₁) cA cy n.toNatClampNeg k.toNatClampNeg (defaultValue ty) n.toNatClampNeg j hj
    rw [hF, hTh, hz] at this
    exact this
  have hout : Jvm.Free.Multi.outerC cA n.toNatClampNeg H.size n.toNatClampNeg = vp_cell cA (n.toNatClampNeg, .inr (.inr (.inr (.inr (fun i => if i < n.toNatClampNeg then some (H.size + 1 + i) else none))))) := by
    rw [vp_cell_q]
    exact vr_outer cA n.toNatClampNeg H.size n.toNatClampNeg
  rw [hout] at f2
  have hlt : ∀ a, a ∈ L → a < H.size := fun a ha => by
    obtain ⟨k9, hk9⟩ := va_pl_get (X := X) (f := f) ha
    exact (hP k9 _ hk9).lt
  have hnl : ∀ i : Nat, i < n.toNatClampNeg → H.size + 1 + i ∉ L := fun i _ h => by
    have := hlt _ h
    omega
  have hnm : ∀ a, a ∈ (List.range n.toNatClampNeg).map (fun i => H.size + 1 + i) → a ∉ L := fun a ha h => by
    obtain ⟨i, -, rfl⟩ := List.mem_map.mp ha
    have := hlt _ h
    omega
  have hP0 : va_P D cl (X ++ va_pl L f) F.heap := hP.kept (fun k9 x hx => hold x.1 ((hP k9 x hx).lt))
  have hP1 : va_P D cl ((X ++ va_pl L f) ++ [(H.size, .inl (cA, n.toNatClampNeg, .inr (.inr (.inr (.inr (fun i => if i < n.toNatClampNeg then some (H.size + 1 + i) else none))))))]) F.heap := hP0.app (fun k9 x hx => by
    have h0 : k9 < 1 := (List.getElem?_eq_some_iff.mp hx).1
    rw [show k9 = 0 by omega] at hx
    cases hx
    exact f2)
  have hP2 : va_P D cl (((X ++ va_pl L f) ++ [(H.size, .inl (cA, n.toNatClampNeg, .inr (.inr (.inr (.inr (fun i => if i < n.toNatClampNeg then some (H.size + 1 + i) else none))))))]) ++ ((List.range n.toNatClampNeg).map (fun i => H.size + 1 + i)).map (fun a => (a, .inl (cy, z)))) F.heap := hP1.app (fun k9 x hx => by
    obtain ⟨a, ha, rfl⟩ := List.mem_map.mp (List.mem_of_getElem? hx)
    obtain ⟨i, hi, rfl⟩ := List.mem_map.mp ha
    exact hrow i (List.mem_range.mp hi))
  have hD2 : va_D A (((X ++ va_pl L f) ++ [(H.size, .inl (cA, n.toNatClampNeg, .inr (.inr (.inr (.inr (fun i => if i < n.toNatClampNeg then some (H.size + 1 + i) else none))))))]) ++ ((List.range n.toNatClampNeg).map (fun i => H.size + 1 + i)).map (fun a => (a, .inl (cy, z)))) := by
    have hD1 := hD.push (e := .inl (cA, n.toNatClampNeg, .inr (.inr (.inr (.inr (fun i => if i < n.toNatClampNeg then some (H.size + 1 + i) else none)))))) hP rfl (hA _ hS.1)
    generalize hW1 : (X ++ va_pl L f) ++ [(H.size, .inl (cA, n.toNatClampNeg, .inr (.inr (.inr (.inr (fun i => if i < n.toNatClampNeg then some (H.size + 1 + i) else none))))))] = W1 at hD1 hP1 ⊢
    have hle : ∀ (k9 : Nat) (x : Nat × va_E), W1[k9]? = some x → x.1 ≤ H.size := fun k9 x hx => by
      rw [← hW1] at hx
      by_cases hl : k9 < (X ++ va_pl L f).length
      · rw [List.getElem?_append_left hl] at hx
        exact Nat.le_of_lt ((hP k9 x hx).lt)
      · rw [List.getElem?_append_right (by omega)] at hx
        have h0 : k9 - (X ++ va_pl L f).length < 1 := (List.getElem?_eq_some_iff.mp hx).1
        rw [show k9 - (X ++ va_pl L f).length = 0 by omega] at hx
        cases hx
        exact Nat.le_refl _
    have hr : ∀ (k9 : Nat) (x : Nat × va_E), (((List.range n.toNatClampNeg).map (fun i => H.size + 1 + i)).map (fun a => ((a, .inl (cy, z)) : Nat × va_E)))[k9]? = some x → x.1 = H.size + 1 + k9 := fun k9 x hx => by
      rw [List.getElem?_map, List.getElem?_map] at hx
      by_cases h9 : k9 < n.toNatClampNeg
      · rw [List.getElem?_range h9] at hx
        cases hx
        rfl
      · have hn0 : (List.range n.toNatClampNeg)[k9]? = none := List.getElem?_eq_none (by rw [List.length_range]; omega)
        rw [hn0] at hx
        cases hx
    refine ⟨fun i j x y hi hj hxy => ?_, fun k9 x hx => ?_⟩
    · by_cases h1 : i < W1.length <;> by_cases h2 : j < W1.length
      · rw [List.getElem?_append_left h1] at hi
        rw [List.getElem?_append_left h2] at hj
        exact hD1.1 i j x y hi hj hxy
      · rw [List.getElem?_append_left h1] at hi
        rw [List.getElem?_append_right (by omega)] at hj
        have := hle _ _ hi
        have := hr _ _ hj
        omega
      · rw [List.getElem?_append_right (by omega)] at hi
        rw [List.getElem?_append_left h2] at hj
        have := hle _ _ hj
        have := hr _ _ hi
        omega
      · rw [List.getElem?_append_right (by omega)] at hi hj
        have := hr _ _ hi
        have := hr _ _ hj
        omega
    · by_cases h1 : k9 < W1.length
      · rw [List.getElem?_append_left h1] at hx
        exact hD1.2 k9 x hx
      · rw [List.getElem?_append_right (by omega)] at hx
        have := hr _ _ hx
        exact hA _ (by have := hS.1; omega)
  have hAr : ArrOfT s cA (.array ty) := fun N9 z9 => by
    obtain ⟨-, k9, hk9, cm9, hkk9⟩ := (hO 0 0 0).1
    exact ⟨(fun q hq => by cases hq), k9, hk9, cm9, hkk9⟩
  have hK2 : va_K D cl (tys ++ [(cA, .array ty)]) s := ⟨hK.1, fun k9 x hx => by
    by_cases hl : k9 < tys.length
    · rw [List.getElem?_append_left hl] at hx
      exact hK.2 k9 x hx
    · rw [List.getElem?_append_right (by omega)] at hx
      have h0 : k9 - tys.length < 1 := (List.getElem?_eq_some_iff.mp hx).1
      rw [show k9 - tys.length = 0 by omega] at hx
      cases hx
      exact ⟨hAr, fA⟩⟩
  obtain ⟨t, a1, b1⟩ := kk H.size (fun i => H.size + 1 + i) cA F.heap (fun i j _ _ h => by have h9 : H.size + 1 + i = H.size + 1 + j := h; omega) hnl hK2 (by rw [← vr_rows hnm]; exact vr_lay hP2) (by rw [← vr_rows hnm]; exact vr_layD hD2) ⟨by rw [f1]; have := hS.1; omega, fun x h1 h2 => (hold x (Nat.lt_of_lt_of_le h1 hS.1)).trans (hS.2.1 x h1 h2), hS.2.2⟩ F rfl X'
  refine ⟨t, step t ?_, b1⟩
  have e : T.heap.size = H.size := by rw [hT]
  rw [e]
  exact a1
end VGM
/-! END multi -/

theorem dX0_init_0 : decode cX0_init 0 = .ok (.aload_n 0, 1) := by decide +kernel
theorem dX0_init_1 : decode cX0_init 1 = .ok (.invokespecial 3, 3) := by decide +kernel
theorem dX0_init_4 : decode cX0_init 4 = .ok (.aload_n 0, 1) := by decide +kernel
theorem dX0_init_5 : decode cX0_init 5 = .ok (.lconst 1, 1) := by decide +kernel
theorem dX0_init_6 : decode cX0_init 6 = .ok (.putfield 9, 3) := by decide +kernel
theorem dX0_init_9 : decode cX0_init 9 = .ok (.aload_n 0, 1) := by decide +kernel
theorem dX0_init_10 : decode cX0_init 10 = .ok (.bipush 11, 2) := by decide +kernel
theorem dX0_init_12 : decode cX0_init 12 = .ok (.bipush 70, 2) := by decide +kernel
theorem dX0_init_14 : decode cX0_init 14 = .ok (.multianewarray 15 2, 4) := by decide +kernel
theorem dX0_init_18 : decode cX0_init 18 = .ok (.putfield 17, 3) := by decide +kernel
theorem dX0_init_21 : decode cX0_init 21 = .ok (.aload_n 0, 1) := by decide +kernel
theorem dX0_init_22 : decode cX0_init 22 = .ok (.bipush 10, 2) := by decide +kernel
theorem dX0_init_24 : decode cX0_init 24 = .ok (.bipush 70, 2) := by decide +kernel
theorem dX0_init_26 : decode cX0_init 26 = .ok (.multianewarray 20 2, 4) := by decide +kernel
theorem dX0_init_30 : decode cX0_init 30 = .ok (.putfield 22, 3) := by decide +kernel
theorem dX0_init_33 : decode cX0_init 33 = .ok (.return_, 1) := by decide +kernel
theorem dX0_slot_0 : decode cX0_slot 0 = .ok (.iload_n 0, 1) := by decide +kernel
theorem dX0_slot_1 : decode cX0_slot 1 = .ok (.bipush (-4), 2) := by decide +kernel
theorem dX0_slot_3 : decode cX0_slot 3 = .ok (.if_icmp .ne 7, 3) := by decide +kernel
theorem dX0_slot_6 : decode cX0_slot 6 = .ok (.iconst 0, 1) := by decide +kernel
theorem dX0_slot_7 : decode cX0_slot 7 = .ok (.goto 6, 3) := by decide +kernel
theorem dX0_slot_10 : decode cX0_slot 10 = .ok (.iload_n 0, 1) := by decide +kernel
theorem dX0_slot_11 : decode cX0_slot 11 = .ok (.iconst 1, 1) := by decide +kernel
theorem dX0_slot_12 : decode cX0_slot 12 = .ok (.iadd, 1) := by decide +kernel
theorem dX0_slot_13 : decode cX0_slot 13 = .ok (.bipush 10, 2) := by decide +kernel
theorem dX0_slot_15 : decode cX0_slot 15 = .ok (.imul, 1) := by decide +kernel
theorem dX0_slot_16 : decode cX0_slot 16 = .ok (.iload_n 1, 1) := by decide +kernel
theorem dX0_slot_17 : decode cX0_slot 17 = .ok (.iadd, 1) := by decide +kernel
theorem dX0_slot_18 : decode cX0_slot 18 = .ok (.ireturn, 1) := by decide +kernel
theorem dX0_plan_0 : decode cX0_plan 0 = .ok (.aload_n 0, 1) := by decide +kernel
theorem dX0_plan_1 : decode cX0_plan 1 = .ok (.lconst 1, 1) := by decide +kernel
theorem dX0_plan_2 : decode cX0_plan 2 = .ok (.putfield 9, 3) := by decide +kernel
theorem dX0_plan_5 : decode cX0_plan 5 = .ok (.iconst 0, 1) := by decide +kernel
theorem dX0_plan_6 : decode cX0_plan 6 = .ok (.istore_n 3, 1) := by decide +kernel
theorem dX0_plan_7 : decode cX0_plan 7 = .ok (.iload_n 3, 1) := by decide +kernel
theorem dX0_plan_8 : decode cX0_plan 8 = .ok (.bipush 70, 2) := by decide +kernel
theorem dX0_plan_10 : decode cX0_plan 10 = .ok (.if_icmp .ge 32, 3) := by decide +kernel
theorem dX0_plan_13 : decode cX0_plan 13 = .ok (.aload_n 0, 1) := by decide +kernel
theorem dX0_plan_14 : decode cX0_plan 14 = .ok (.getfield 17, 3) := by decide +kernel
theorem dX0_plan_17 : decode cX0_plan 17 = .ok (.aload_n 1, 1) := by decide +kernel
theorem dX0_plan_18 : decode cX0_plan 18 = .ok (.getfield 25, 3) := by decide +kernel
theorem dX0_plan_21 : decode cX0_plan 21 = .ok (.aaload, 1) := by decide +kernel
theorem dX0_plan_22 : decode cX0_plan 22 = .ok (.iload_n 3, 1) := by decide +kernel
theorem dX0_plan_23 : decode cX0_plan 23 = .ok (.iload_n 3, 1) := by decide +kernel
theorem dX0_plan_24 : decode cX0_plan 24 = .ok (.bipush 10, 2) := by decide +kernel
theorem dX0_plan_26 : decode cX0_plan 26 = .ok (.irem, 1) := by decide +kernel
theorem dX0_plan_27 : decode cX0_plan 27 = .ok (.ifCond .ne 7, 3) := by decide +kernel
theorem dX0_plan_30 : decode cX0_plan 30 = .ok (.lconst 1, 1) := by decide +kernel
theorem dX0_plan_31 : decode cX0_plan 31 = .ok (.goto 4, 3) := by decide +kernel
theorem dX0_plan_34 : decode cX0_plan 34 = .ok (.lconst 0, 1) := by decide +kernel
theorem dX0_plan_35 : decode cX0_plan 35 = .ok (.lastore, 1) := by decide +kernel
theorem dX0_plan_36 : decode cX0_plan 36 = .ok (.iinc 3 1, 3) := by decide +kernel
theorem dX0_plan_39 : decode cX0_plan 39 = .ok (.goto (-32), 3) := by decide +kernel
theorem dX0_plan_42 : decode cX0_plan 42 = .ok (.aload_n 1, 1) := by decide +kernel
theorem dX0_plan_43 : decode cX0_plan 43 = .ok (.getfield 25, 3) := by decide +kernel
theorem dX0_plan_46 : decode cX0_plan 46 = .ok (.iconst 1, 1) := by decide +kernel
theorem dX0_plan_47 : decode cX0_plan 47 = .ok (.isub, 1) := by decide +kernel
theorem dX0_plan_48 : decode cX0_plan 48 = .ok (.istore_n 3, 1) := by decide +kernel
theorem dX0_plan_49 : decode cX0_plan 49 = .ok (.iload_n 3, 1) := by decide +kernel
theorem dX0_plan_50 : decode cX0_plan 50 = .ok (.ifCond .lt 57, 3) := by decide +kernel
theorem dX0_plan_53 : decode cX0_plan 53 = .ok (.aload_n 0, 1) := by decide +kernel
theorem dX0_plan_54 : decode cX0_plan 54 = .ok (.dup, 1) := by decide +kernel
theorem dX0_plan_55 : decode cX0_plan 55 = .ok (.getfield 9, 3) := by decide +kernel
theorem dX0_plan_58 : decode cX0_plan 58 = .ok (.ldc2_w 31, 3) := by decide +kernel
theorem dX0_plan_61 : decode cX0_plan 61 = .ok (.lmul, 1) := by decide +kernel
theorem dX0_plan_62 : decode cX0_plan 62 = .ok (.putfield 9, 3) := by decide +kernel
theorem dX0_plan_65 : decode cX0_plan 65 = .ok (.aload_n 0, 1) := by decide +kernel
theorem dX0_plan_66 : decode cX0_plan 66 = .ok (.aload_n 1, 1) := by decide +kernel
theorem dX0_plan_67 : decode cX0_plan 67 = .ok (.iload_n 3, 1) := by decide +kernel
theorem dX0_plan_68 : decode cX0_plan 68 = .ok (.bipush (-4), 2) := by decide +kernel
theorem dX0_plan_70 : decode cX0_plan 70 = .ok (.iload_n 2, 1) := by decide +kernel
theorem dX0_plan_71 : decode cX0_plan 71 = .ok (.invokevirtual 33, 3) := by decide +kernel
theorem dX0_plan_74 : decode cX0_plan 74 = .ok (.iconst 0, 1) := by decide +kernel
theorem dX0_plan_75 : decode cX0_plan 75 = .ok (.istore 4, 2) := by decide +kernel
theorem dX0_plan_77 : decode cX0_plan 77 = .ok (.iload 4, 2) := by decide +kernel
theorem dX0_plan_79 : decode cX0_plan 79 = .ok (.aload_n 1, 1) := by decide +kernel
theorem dX0_plan_80 : decode cX0_plan 80 = .ok (.getfield 37, 3) := by decide +kernel
theorem dX0_plan_83 : decode cX0_plan 83 = .ok (.if_icmp .ge 18, 3) := by decide +kernel
theorem dX0_plan_86 : decode cX0_plan 86 = .ok (.aload_n 0, 1) := by decide +kernel
theorem dX0_plan_87 : decode cX0_plan 87 = .ok (.aload_n 1, 1) := by decide +kernel
theorem dX0_plan_88 : decode cX0_plan 88 = .ok (.iload_n 3, 1) := by decide +kernel
theorem dX0_plan_89 : decode cX0_plan 89 = .ok (.iload 4, 2) := by decide +kernel
theorem dX0_plan_91 : decode cX0_plan 91 = .ok (.iload_n 2, 1) := by decide +kernel
theorem dX0_plan_92 : decode cX0_plan 92 = .ok (.invokevirtual 33, 3) := by decide +kernel
theorem dX0_plan_95 : decode cX0_plan 95 = .ok (.iinc 4 1, 3) := by decide +kernel
theorem dX0_plan_98 : decode cX0_plan 98 = .ok (.goto (-21), 3) := by decide +kernel
theorem dX0_plan_101 : decode cX0_plan 101 = .ok (.iinc 3 (-1), 3) := by decide +kernel
theorem dX0_plan_104 : decode cX0_plan 104 = .ok (.goto (-55), 3) := by decide +kernel
theorem dX0_plan_107 : decode cX0_plan 107 = .ok (.return_, 1) := by decide +kernel
theorem dX0_chooseFrom_0 : decode cX0_chooseFrom 0 = .ok (.aload_n 0, 1) := by decide +kernel
theorem dX0_chooseFrom_1 : decode cX0_chooseFrom 1 = .ok (.getfield 17, 3) := by decide +kernel
theorem dX0_chooseFrom_4 : decode cX0_chooseFrom 4 = .ok (.iload_n 2, 1) := by decide +kernel
theorem dX0_chooseFrom_5 : decode cX0_chooseFrom 5 = .ok (.aaload, 1) := by decide +kernel
theorem dX0_chooseFrom_6 : decode cX0_chooseFrom 6 = .ok (.iload_n 3, 1) := by decide +kernel
theorem dX0_chooseFrom_7 : decode cX0_chooseFrom 7 = .ok (.iconst 0, 1) := by decide +kernel
theorem dX0_chooseFrom_8 : decode cX0_chooseFrom 8 = .ok (.invokestatic 40, 3) := by decide +kernel
theorem dX0_chooseFrom_11 : decode cX0_chooseFrom 11 = .ok (.aload_n 0, 1) := by decide +kernel
theorem dX0_chooseFrom_12 : decode cX0_chooseFrom 12 = .ok (.getfield 9, 3) := by decide +kernel
theorem dX0_chooseFrom_15 : decode cX0_chooseFrom 15 = .ok (.lastore, 1) := by decide +kernel
theorem dX0_chooseFrom_16 : decode cX0_chooseFrom 16 = .ok (.iconst 1, 1) := by decide +kernel
theorem dX0_chooseFrom_17 : decode cX0_chooseFrom 17 = .ok (.istore 5, 2) := by decide +kernel
theorem dX0_chooseFrom_19 : decode cX0_chooseFrom 19 = .ok (.iload 5, 2) := by decide +kernel
theorem dX0_chooseFrom_21 : decode cX0_chooseFrom 21 = .ok (.bipush 10, 2) := by decide +kernel
theorem dX0_chooseFrom_23 : decode cX0_chooseFrom 23 = .ok (.if_icmp .ge 25, 3) := by decide +kernel
theorem dX0_chooseFrom_26 : decode cX0_chooseFrom 26 = .ok (.aload_n 0, 1) := by decide +kernel
theorem dX0_chooseFrom_27 : decode cX0_chooseFrom 27 = .ok (.getfield 17, 3) := by decide +kernel
theorem dX0_chooseFrom_30 : decode cX0_chooseFrom 30 = .ok (.iload_n 2, 1) := by decide +kernel
theorem dX0_chooseFrom_31 : decode cX0_chooseFrom 31 = .ok (.aaload, 1) := by decide +kernel
theorem dX0_chooseFrom_32 : decode cX0_chooseFrom 32 = .ok (.iload_n 3, 1) := by decide +kernel
theorem dX0_chooseFrom_33 : decode cX0_chooseFrom 33 = .ok (.iload 5, 2) := by decide +kernel
theorem dX0_chooseFrom_35 : decode cX0_chooseFrom 35 = .ok (.invokestatic 40, 3) := by decide +kernel
theorem dX0_chooseFrom_38 : decode cX0_chooseFrom 38 = .ok (.ldc2_w 44, 3) := by decide +kernel
theorem dX0_chooseFrom_41 : decode cX0_chooseFrom 41 = .ok (.lastore, 1) := by decide +kernel
theorem dX0_chooseFrom_42 : decode cX0_chooseFrom 42 = .ok (.iinc 5 1, 3) := by decide +kernel
theorem dX0_chooseFrom_45 : decode cX0_chooseFrom 45 = .ok (.goto (-26), 3) := by decide +kernel
theorem dX0_chooseFrom_48 : decode cX0_chooseFrom 48 = .ok (.iconst 0, 1) := by decide +kernel
theorem dX0_chooseFrom_49 : decode cX0_chooseFrom 49 = .ok (.istore 5, 2) := by decide +kernel
theorem dX0_chooseFrom_51 : decode cX0_chooseFrom 51 = .ok (.iload 5, 2) := by decide +kernel
theorem dX0_chooseFrom_53 : decode cX0_chooseFrom 53 = .ok (.aload_n 1, 1) := by decide +kernel
theorem dX0_chooseFrom_54 : decode cX0_chooseFrom 54 = .ok (.getfield 37, 3) := by decide +kernel
theorem dX0_chooseFrom_57 : decode cX0_chooseFrom 57 = .ok (.if_icmp .ge 32, 3) := by decide +kernel
theorem dX0_chooseFrom_60 : decode cX0_chooseFrom 60 = .ok (.iload 5, 2) := by decide +kernel
theorem dX0_chooseFrom_62 : decode cX0_chooseFrom 62 = .ok (.iload 4, 2) := by decide +kernel
theorem dX0_chooseFrom_64 : decode cX0_chooseFrom 64 = .ok (.if_icmp .eq 19, 3) := by decide +kernel
theorem dX0_chooseFrom_67 : decode cX0_chooseFrom 67 = .ok (.aload_n 0, 1) := by decide +kernel
theorem dX0_chooseFrom_68 : decode cX0_chooseFrom 68 = .ok (.iload_n 2, 1) := by decide +kernel
theorem dX0_chooseFrom_69 : decode cX0_chooseFrom 69 = .ok (.iload_n 3, 1) := by decide +kernel
theorem dX0_chooseFrom_70 : decode cX0_chooseFrom 70 = .ok (.iload 5, 2) := by decide +kernel
theorem dX0_chooseFrom_72 : decode cX0_chooseFrom 72 = .ok (.aload_n 1, 1) := by decide +kernel
theorem dX0_chooseFrom_73 : decode cX0_chooseFrom 73 = .ok (.iload_n 2, 1) := by decide +kernel
theorem dX0_chooseFrom_74 : decode cX0_chooseFrom 74 = .ok (.iload_n 3, 1) := by decide +kernel
theorem dX0_chooseFrom_75 : decode cX0_chooseFrom 75 = .ok (.iload 5, 2) := by decide +kernel
theorem dX0_chooseFrom_77 : decode cX0_chooseFrom 77 = .ok (.invokevirtual 46, 3) := by decide +kernel
theorem dX0_chooseFrom_80 : decode cX0_chooseFrom 80 = .ok (.invokevirtual 50, 3) := by decide +kernel
theorem dX0_chooseFrom_83 : decode cX0_chooseFrom 83 = .ok (.iinc 5 1, 3) := by decide +kernel
theorem dX0_chooseFrom_86 : decode cX0_chooseFrom 86 = .ok (.goto (-35), 3) := by decide +kernel
theorem dX0_chooseFrom_89 : decode cX0_chooseFrom 89 = .ok (.return_, 1) := by decide +kernel
theorem dX0_weigh_0 : decode cX0_weigh 0 = .ok (.iconst 1, 1) := by decide +kernel
theorem dX0_weigh_1 : decode cX0_weigh 1 = .ok (.istore 5, 2) := by decide +kernel
theorem dX0_weigh_3 : decode cX0_weigh 3 = .ok (.iload 5, 2) := by decide +kernel
theorem dX0_weigh_5 : decode cX0_weigh 5 = .ok (.bipush 10, 2) := by decide +kernel
theorem dX0_weigh_7 : decode cX0_weigh 7 = .ok (.if_icmp .ge 118, 3) := by decide +kernel
theorem dX0_weigh_10 : decode cX0_weigh 10 = .ok (.aload_n 0, 1) := by decide +kernel
theorem dX0_weigh_11 : decode cX0_weigh 11 = .ok (.getfield 17, 3) := by decide +kernel
theorem dX0_weigh_14 : decode cX0_weigh 14 = .ok (.iload_n 1, 1) := by decide +kernel
theorem dX0_weigh_15 : decode cX0_weigh 15 = .ok (.iconst 1, 1) := by decide +kernel
theorem dX0_weigh_16 : decode cX0_weigh 16 = .ok (.iadd, 1) := by decide +kernel
theorem dX0_weigh_17 : decode cX0_weigh 17 = .ok (.aaload, 1) := by decide +kernel
theorem dX0_weigh_18 : decode cX0_weigh 18 = .ok (.iload_n 3, 1) := by decide +kernel
theorem dX0_weigh_19 : decode cX0_weigh 19 = .ok (.iload 5, 2) := by decide +kernel
theorem dX0_weigh_21 : decode cX0_weigh 21 = .ok (.iconst 1, 1) := by decide +kernel
theorem dX0_weigh_22 : decode cX0_weigh 22 = .ok (.isub, 1) := by decide +kernel
theorem dX0_weigh_23 : decode cX0_weigh 23 = .ok (.invokestatic 40, 3) := by decide +kernel
theorem dX0_weigh_26 : decode cX0_weigh 26 = .ok (.laload, 1) := by decide +kernel
theorem dX0_weigh_27 : decode cX0_weigh 27 = .ok (.lstore 6, 2) := by decide +kernel
theorem dX0_weigh_29 : decode cX0_weigh 29 = .ok (.aload_n 0, 1) := by decide +kernel
theorem dX0_weigh_30 : decode cX0_weigh 30 = .ok (.getfield 17, 3) := by decide +kernel
theorem dX0_weigh_33 : decode cX0_weigh 33 = .ok (.iload_n 1, 1) := by decide +kernel
theorem dX0_weigh_34 : decode cX0_weigh 34 = .ok (.iconst 1, 1) := by decide +kernel
theorem dX0_weigh_35 : decode cX0_weigh 35 = .ok (.iadd, 1) := by decide +kernel
theorem dX0_weigh_36 : decode cX0_weigh 36 = .ok (.aaload, 1) := by decide +kernel
theorem dX0_weigh_37 : decode cX0_weigh 37 = .ok (.iload_n 3, 1) := by decide +kernel
theorem dX0_weigh_38 : decode cX0_weigh 38 = .ok (.bipush 9, 2) := by decide +kernel
theorem dX0_weigh_40 : decode cX0_weigh 40 = .ok (.iload 5, 2) := by decide +kernel
theorem dX0_weigh_42 : decode cX0_weigh 42 = .ok (.iconst 1, 1) := by decide +kernel
theorem dX0_weigh_43 : decode cX0_weigh 43 = .ok (.iadd, 1) := by decide +kernel
theorem dX0_weigh_44 : decode cX0_weigh 44 = .ok (.invokestatic 54, 3) := by decide +kernel
theorem dX0_weigh_47 : decode cX0_weigh 47 = .ok (.invokestatic 40, 3) := by decide +kernel
theorem dX0_weigh_50 : decode cX0_weigh 50 = .ok (.laload, 1) := by decide +kernel
theorem dX0_weigh_51 : decode cX0_weigh 51 = .ok (.lstore 8, 2) := by decide +kernel
theorem dX0_weigh_53 : decode cX0_weigh 53 = .ok (.lload 6, 2) := by decide +kernel
theorem dX0_weigh_55 : decode cX0_weigh 55 = .ok (.iload 4, 2) := by decide +kernel
theorem dX0_weigh_57 : decode cX0_weigh 57 = .ok (.i2l, 1) := by decide +kernel
theorem dX0_weigh_58 : decode cX0_weigh 58 = .ok (.lmul, 1) := by decide +kernel
theorem dX0_weigh_59 : decode cX0_weigh 59 = .ok (.lload 8, 2) := by decide +kernel
theorem dX0_weigh_61 : decode cX0_weigh 61 = .ok (.bipush 20, 2) := by decide +kernel
theorem dX0_weigh_63 : decode cX0_weigh 63 = .ok (.iload 4, 2) := by decide +kernel
theorem dX0_weigh_65 : decode cX0_weigh 65 = .ok (.isub, 1) := by decide +kernel
theorem dX0_weigh_66 : decode cX0_weigh 66 = .ok (.i2l, 1) := by decide +kernel
theorem dX0_weigh_67 : decode cX0_weigh 67 = .ok (.lmul, 1) := by decide +kernel
theorem dX0_weigh_68 : decode cX0_weigh 68 = .ok (.ladd, 1) := by decide +kernel
theorem dX0_weigh_69 : decode cX0_weigh 69 = .ok (.lstore 10, 2) := by decide +kernel
theorem dX0_weigh_71 : decode cX0_weigh 71 = .ok (.lload 10, 2) := by decide +kernel
theorem dX0_weigh_73 : decode cX0_weigh 73 = .ok (.aload_n 0, 1) := by decide +kernel
theorem dX0_weigh_74 : decode cX0_weigh 74 = .ok (.getfield 17, 3) := by decide +kernel
theorem dX0_weigh_77 : decode cX0_weigh 77 = .ok (.iload_n 1, 1) := by decide +kernel
theorem dX0_weigh_78 : decode cX0_weigh 78 = .ok (.aaload, 1) := by decide +kernel
theorem dX0_weigh_79 : decode cX0_weigh 79 = .ok (.iload_n 2, 1) := by decide +kernel
theorem dX0_weigh_80 : decode cX0_weigh 80 = .ok (.iload 5, 2) := by decide +kernel
theorem dX0_weigh_82 : decode cX0_weigh 82 = .ok (.invokestatic 40, 3) := by decide +kernel
theorem dX0_weigh_85 : decode cX0_weigh 85 = .ok (.laload, 1) := by decide +kernel
theorem dX0_weigh_86 : decode cX0_weigh 86 = .ok (.lcmp, 1) := by decide +kernel
theorem dX0_weigh_87 : decode cX0_weigh 87 = .ok (.ifCond .ge 32, 3) := by decide +kernel
theorem dX0_weigh_90 : decode cX0_weigh 90 = .ok (.aload_n 0, 1) := by decide +kernel
theorem dX0_weigh_91 : decode cX0_weigh 91 = .ok (.getfield 17, 3) := by decide +kernel
theorem dX0_weigh_94 : decode cX0_weigh 94 = .ok (.iload_n 1, 1) := by decide +kernel
theorem dX0_weigh_95 : decode cX0_weigh 95 = .ok (.aaload, 1) := by decide +kernel
theorem dX0_weigh_96 : decode cX0_weigh 96 = .ok (.iload_n 2, 1) := by decide +kernel
theorem dX0_weigh_97 : decode cX0_weigh 97 = .ok (.iload 5, 2) := by decide +kernel
theorem dX0_weigh_99 : decode cX0_weigh 99 = .ok (.invokestatic 40, 3) := by decide +kernel
theorem dX0_weigh_102 : decode cX0_weigh 102 = .ok (.lload 10, 2) := by decide +kernel
theorem dX0_weigh_104 : decode cX0_weigh 104 = .ok (.lastore, 1) := by decide +kernel
theorem dX0_weigh_105 : decode cX0_weigh 105 = .ok (.aload_n 0, 1) := by decide +kernel
theorem dX0_weigh_106 : decode cX0_weigh 106 = .ok (.getfield 22, 3) := by decide +kernel
theorem dX0_weigh_109 : decode cX0_weigh 109 = .ok (.iload_n 1, 1) := by decide +kernel
theorem dX0_weigh_110 : decode cX0_weigh 110 = .ok (.aaload, 1) := by decide +kernel
theorem dX0_weigh_111 : decode cX0_weigh 111 = .ok (.iload_n 2, 1) := by decide +kernel
theorem dX0_weigh_112 : decode cX0_weigh 112 = .ok (.iload 5, 2) := by decide +kernel
theorem dX0_weigh_114 : decode cX0_weigh 114 = .ok (.invokestatic 40, 3) := by decide +kernel
theorem dX0_weigh_117 : decode cX0_weigh 117 = .ok (.iload_n 3, 1) := by decide +kernel
theorem dX0_weigh_118 : decode cX0_weigh 118 = .ok (.iastore, 1) := by decide +kernel
theorem dX0_weigh_119 : decode cX0_weigh 119 = .ok (.iinc 5 1, 3) := by decide +kernel
theorem dX0_weigh_122 : decode cX0_weigh 122 = .ok (.goto (-119), 3) := by decide +kernel
theorem dX0_weigh_125 : decode cX0_weigh 125 = .ok (.return_, 1) := by decide +kernel
theorem dX0_wakingAtFirst_0 : decode cX0_wakingAtFirst 0 = .ok (.aload_n 0, 1) := by decide +kernel
theorem dX0_wakingAtFirst_1 : decode cX0_wakingAtFirst 1 = .ok (.getfield 17, 3) := by decide +kernel
theorem dX0_wakingAtFirst_4 : decode cX0_wakingAtFirst 4 = .ok (.iconst 0, 1) := by decide +kernel
theorem dX0_wakingAtFirst_5 : decode cX0_wakingAtFirst 5 = .ok (.aaload, 1) := by decide +kernel
theorem dX0_wakingAtFirst_6 : decode cX0_wakingAtFirst 6 = .ok (.bipush (-4), 2) := by decide +kernel
theorem dX0_wakingAtFirst_8 : decode cX0_wakingAtFirst 8 = .ok (.aload_n 1, 1) := by decide +kernel
theorem dX0_wakingAtFirst_9 : decode cX0_wakingAtFirst 9 = .ok (.getfield 59, 3) := by decide +kernel
theorem dX0_wakingAtFirst_12 : decode cX0_wakingAtFirst 12 = .ok (.invokestatic 40, 3) := by decide +kernel
theorem dX0_wakingAtFirst_15 : decode cX0_wakingAtFirst 15 = .ok (.laload, 1) := by decide +kernel
theorem dX0_wakingAtFirst_16 : decode cX0_wakingAtFirst 16 = .ok (.lreturn, 1) := by decide +kernel
theorem dX1_init_0 : decode cX1_init 0 = .ok (.aload_n 0, 1) := by decide +kernel
theorem dX1_init_1 : decode cX1_init 1 = .ok (.invokespecial 3, 3) := by decide +kernel
theorem dX1_init_4 : decode cX1_init 4 = .ok (.return_, 1) := by decide +kernel
theorem dX1_cross_0 : decode cX1_cross 0 = .ok (.aload_n 0, 1) := by decide +kernel
theorem dX1_cross_1 : decode cX1_cross 1 = .ok (.aload_n 1, 1) := by decide +kernel
theorem dX1_cross_2 : decode cX1_cross 2 = .ok (.getfield 9, 3) := by decide +kernel
theorem dX1_cross_5 : decode cX1_cross 5 = .ok (.putfield 15, 3) := by decide +kernel
theorem dX1_cross_8 : decode cX1_cross 8 = .ok (.aload_n 0, 1) := by decide +kernel
theorem dX1_cross_9 : decode cX1_cross 9 = .ok (.iconst 0, 1) := by decide +kernel
theorem dX1_cross_10 : decode cX1_cross 10 = .ok (.putfield 20, 3) := by decide +kernel
theorem dX1_cross_13 : decode cX1_cross 13 = .ok (.aload_n 0, 1) := by decide +kernel
theorem dX1_cross_14 : decode cX1_cross 14 = .ok (.bipush (-4), 2) := by decide +kernel
theorem dX1_cross_16 : decode cX1_cross 16 = .ok (.putfield 23, 3) := by decide +kernel
theorem dX1_cross_19 : decode cX1_cross 19 = .ok (.iload_n 2, 1) := by decide +kernel
theorem dX1_cross_20 : decode cX1_cross 20 = .ok (.istore_n 3, 1) := by decide +kernel
theorem dX1_cross_21 : decode cX1_cross 21 = .ok (.iconst 0, 1) := by decide +kernel
theorem dX1_cross_22 : decode cX1_cross 22 = .ok (.istore 4, 2) := by decide +kernel
theorem dX1_cross_24 : decode cX1_cross 24 = .ok (.iload 4, 2) := by decide +kernel
theorem dX1_cross_26 : decode cX1_cross 26 = .ok (.aload_n 1, 1) := by decide +kernel
theorem dX1_cross_27 : decode cX1_cross 27 = .ok (.getfield 26, 3) := by decide +kernel
theorem dX1_cross_30 : decode cX1_cross 30 = .ok (.if_icmp .ge 96, 3) := by decide +kernel
theorem dX1_cross_33 : decode cX1_cross 33 = .ok (.aload_n 0, 1) := by decide +kernel
theorem dX1_cross_34 : decode cX1_cross 34 = .ok (.getfield 15, 3) := by decide +kernel
theorem dX1_cross_37 : decode cX1_cross 37 = .ok (.ifCond .le 89, 3) := by decide +kernel
theorem dX1_cross_40 : decode cX1_cross 40 = .ok (.iload_n 3, 1) := by decide +kernel
theorem dX1_cross_41 : decode cX1_cross 41 = .ok (.ldc 29, 2) := by decide +kernel
theorem dX1_cross_43 : decode cX1_cross 43 = .ok (.imul, 1) := by decide +kernel
theorem dX1_cross_44 : decode cX1_cross 44 = .ok (.sipush 12345, 3) := by decide +kernel
theorem dX1_cross_47 : decode cX1_cross 47 = .ok (.iadd, 1) := by decide +kernel
theorem dX1_cross_48 : decode cX1_cross 48 = .ok (.istore_n 3, 1) := by decide +kernel
theorem dX1_cross_49 : decode cX1_cross 49 = .ok (.iload_n 3, 1) := by decide +kernel
theorem dX1_cross_50 : decode cX1_cross 50 = .ok (.bipush 16, 2) := by decide +kernel
theorem dX1_cross_52 : decode cX1_cross 52 = .ok (.ishr, 1) := by decide +kernel
theorem dX1_cross_53 : decode cX1_cross 53 = .ok (.sipush 32767, 3) := by decide +kernel
theorem dX1_cross_56 : decode cX1_cross 56 = .ok (.iand, 1) := by decide +kernel
theorem dX1_cross_57 : decode cX1_cross 57 = .ok (.bipush 20, 2) := by decide +kernel
theorem dX1_cross_59 : decode cX1_cross 59 = .ok (.irem, 1) := by decide +kernel
theorem dX1_cross_60 : decode cX1_cross 60 = .ok (.aload_n 1, 1) := by decide +kernel
theorem dX1_cross_61 : decode cX1_cross 61 = .ok (.iload 4, 2) := by decide +kernel
theorem dX1_cross_63 : decode cX1_cross 63 = .ok (.invokevirtual 30, 3) := by decide +kernel
theorem dX1_cross_66 : decode cX1_cross 66 = .ok (.if_icmp .ge 26, 3) := by decide +kernel
theorem dX1_cross_69 : decode cX1_cross 69 = .ok (.aload_n 0, 1) := by decide +kernel
theorem dX1_cross_70 : decode cX1_cross 70 = .ok (.dup, 1) := by decide +kernel
theorem dX1_cross_71 : decode cX1_cross 71 = .ok (.getfield 15, 3) := by decide +kernel
theorem dX1_cross_74 : decode cX1_cross 74 = .ok (.iconst 1, 1) := by decide +kernel
theorem dX1_cross_75 : decode cX1_cross 75 = .ok (.isub, 1) := by decide +kernel
theorem dX1_cross_76 : decode cX1_cross 76 = .ok (.putfield 15, 3) := by decide +kernel
theorem dX1_cross_79 : decode cX1_cross 79 = .ok (.aload_n 0, 1) := by decide +kernel
theorem dX1_cross_80 : decode cX1_cross 80 = .ok (.dup, 1) := by decide +kernel
theorem dX1_cross_81 : decode cX1_cross 81 = .ok (.getfield 20, 3) := by decide +kernel
theorem dX1_cross_84 : decode cX1_cross 84 = .ok (.iconst 1, 1) := by decide +kernel
theorem dX1_cross_85 : decode cX1_cross 85 = .ok (.iadd, 1) := by decide +kernel
theorem dX1_cross_86 : decode cX1_cross 86 = .ok (.putfield 20, 3) := by decide +kernel
theorem dX1_cross_89 : decode cX1_cross 89 = .ok (.goto 18, 3) := by decide +kernel
theorem dX1_cross_92 : decode cX1_cross 92 = .ok (.aload_n 0, 1) := by decide +kernel
theorem dX1_cross_93 : decode cX1_cross 93 = .ok (.bipush 9, 2) := by decide +kernel
theorem dX1_cross_95 : decode cX1_cross 95 = .ok (.aload_n 0, 1) := by decide +kernel
theorem dX1_cross_96 : decode cX1_cross 96 = .ok (.getfield 15, 3) := by decide +kernel
theorem dX1_cross_99 : decode cX1_cross 99 = .ok (.iconst 1, 1) := by decide +kernel
theorem dX1_cross_100 : decode cX1_cross 100 = .ok (.iadd, 1) := by decide +kernel
theorem dX1_cross_101 : decode cX1_cross 101 = .ok (.invokestatic 34, 3) := by decide +kernel
theorem dX1_cross_104 : decode cX1_cross 104 = .ok (.putfield 15, 3) := by decide +kernel
theorem dX1_cross_107 : decode cX1_cross 107 = .ok (.aload_n 0, 1) := by decide +kernel
theorem dX1_cross_108 : decode cX1_cross 108 = .ok (.getfield 15, 3) := by decide +kernel
theorem dX1_cross_111 : decode cX1_cross 111 = .ok (.ifCond .ne 9, 3) := by decide +kernel
theorem dX1_cross_114 : decode cX1_cross 114 = .ok (.aload_n 0, 1) := by decide +kernel
theorem dX1_cross_115 : decode cX1_cross 115 = .ok (.iload 4, 2) := by decide +kernel
theorem dX1_cross_117 : decode cX1_cross 117 = .ok (.putfield 23, 3) := by decide +kernel
theorem dX1_cross_120 : decode cX1_cross 120 = .ok (.iinc 4 1, 3) := by decide +kernel
theorem dX1_cross_123 : decode cX1_cross 123 = .ok (.goto (-99), 3) := by decide +kernel
theorem dX1_cross_126 : decode cX1_cross 126 = .ok (.return_, 1) := by decide +kernel
theorem dX2_init_0 : decode cX2_init 0 = .ok (.aload_n 0, 1) := by decide +kernel
theorem dX2_init_1 : decode cX2_init 1 = .ok (.invokespecial 1, 3) := by decide +kernel
theorem dX2_init_4 : decode cX2_init 4 = .ok (.aload_n 0, 1) := by decide +kernel
theorem dX2_init_5 : decode cX2_init 5 = .ok (.bipush 8, 2) := by decide +kernel
theorem dX2_init_7 : decode cX2_init 7 = .ok (.newarray .int, 2) := by decide +kernel
theorem dX2_init_9 : decode cX2_init 9 = .ok (.putfield 9, 3) := by decide +kernel
theorem dX2_init_12 : decode cX2_init 12 = .ok (.aload_n 0, 1) := by decide +kernel
theorem dX2_init_13 : decode cX2_init 13 = .ok (.bipush 8, 2) := by decide +kernel
theorem dX2_init_15 : decode cX2_init 15 = .ok (.newarray .int, 2) := by decide +kernel
theorem dX2_init_17 : decode cX2_init 17 = .ok (.putfield 13, 3) := by decide +kernel
theorem dX2_init_20 : decode cX2_init 20 = .ok (.aload_n 0, 1) := by decide +kernel
theorem dX2_init_21 : decode cX2_init 21 = .ok (.bipush 8, 2) := by decide +kernel
theorem dX2_init_23 : decode cX2_init 23 = .ok (.newarray .int, 2) := by decide +kernel
theorem dX2_init_25 : decode cX2_init 25 = .ok (.putfield 16, 3) := by decide +kernel
theorem dX2_init_28 : decode cX2_init 28 = .ok (.aload_n 0, 1) := by decide +kernel
theorem dX2_init_29 : decode cX2_init 29 = .ok (.bipush 8, 2) := by decide +kernel
theorem dX2_init_31 : decode cX2_init 31 = .ok (.newarray .int, 2) := by decide +kernel
theorem dX2_init_33 : decode cX2_init 33 = .ok (.putfield 19, 3) := by decide +kernel
theorem dX2_init_36 : decode cX2_init 36 = .ok (.return_, 1) := by decide +kernel
theorem dX2_add_0 : decode cX2_add 0 = .ok (.aload_n 0, 1) := by decide +kernel
theorem dX2_add_1 : decode cX2_add 1 = .ok (.getfield 22, 3) := by decide +kernel
theorem dX2_add_4 : decode cX2_add 4 = .ok (.ifCond .lt 12, 3) := by decide +kernel
theorem dX2_add_7 : decode cX2_add 7 = .ok (.aload_n 0, 1) := by decide +kernel
theorem dX2_add_8 : decode cX2_add 8 = .ok (.getfield 22, 3) := by decide +kernel
theorem dX2_add_11 : decode cX2_add 11 = .ok (.bipush 8, 2) := by decide +kernel
theorem dX2_add_13 : decode cX2_add 13 = .ok (.if_icmp .lt 5, 3) := by decide +kernel
theorem dX2_add_16 : decode cX2_add 16 = .ok (.iconst 0, 1) := by decide +kernel
theorem dX2_add_17 : decode cX2_add 17 = .ok (.ireturn, 1) := by decide +kernel
theorem dX2_add_18 : decode cX2_add 18 = .ok (.aload_n 0, 1) := by decide +kernel
theorem dX2_add_19 : decode cX2_add 19 = .ok (.getfield 9, 3) := by decide +kernel
theorem dX2_add_22 : decode cX2_add 22 = .ok (.aload_n 0, 1) := by decide +kernel
theorem dX2_add_23 : decode cX2_add 23 = .ok (.getfield 22, 3) := by decide +kernel
theorem dX2_add_26 : decode cX2_add 26 = .ok (.iload_n 1, 1) := by decide +kernel
theorem dX2_add_27 : decode cX2_add 27 = .ok (.iastore, 1) := by decide +kernel
theorem dX2_add_28 : decode cX2_add 28 = .ok (.aload_n 0, 1) := by decide +kernel
theorem dX2_add_29 : decode cX2_add 29 = .ok (.getfield 13, 3) := by decide +kernel
theorem dX2_add_32 : decode cX2_add 32 = .ok (.aload_n 0, 1) := by decide +kernel
theorem dX2_add_33 : decode cX2_add 33 = .ok (.getfield 22, 3) := by decide +kernel
theorem dX2_add_36 : decode cX2_add 36 = .ok (.iload_n 2, 1) := by decide +kernel
theorem dX2_add_37 : decode cX2_add 37 = .ok (.iastore, 1) := by decide +kernel
theorem dX2_add_38 : decode cX2_add 38 = .ok (.aload_n 0, 1) := by decide +kernel
theorem dX2_add_39 : decode cX2_add 39 = .ok (.getfield 16, 3) := by decide +kernel
theorem dX2_add_42 : decode cX2_add 42 = .ok (.aload_n 0, 1) := by decide +kernel
theorem dX2_add_43 : decode cX2_add 43 = .ok (.getfield 22, 3) := by decide +kernel
theorem dX2_add_46 : decode cX2_add 46 = .ok (.iload_n 3, 1) := by decide +kernel
theorem dX2_add_47 : decode cX2_add 47 = .ok (.iastore, 1) := by decide +kernel
theorem dX2_add_48 : decode cX2_add 48 = .ok (.aload_n 0, 1) := by decide +kernel
theorem dX2_add_49 : decode cX2_add 49 = .ok (.getfield 19, 3) := by decide +kernel
theorem dX2_add_52 : decode cX2_add 52 = .ok (.aload_n 0, 1) := by decide +kernel
theorem dX2_add_53 : decode cX2_add 53 = .ok (.getfield 22, 3) := by decide +kernel
theorem dX2_add_56 : decode cX2_add 56 = .ok (.iload 4, 2) := by decide +kernel
theorem dX2_add_58 : decode cX2_add 58 = .ok (.iastore, 1) := by decide +kernel
theorem dX2_add_59 : decode cX2_add 59 = .ok (.aload_n 0, 1) := by decide +kernel
theorem dX2_add_60 : decode cX2_add 60 = .ok (.dup, 1) := by decide +kernel
theorem dX2_add_61 : decode cX2_add 61 = .ok (.getfield 22, 3) := by decide +kernel
theorem dX2_add_64 : decode cX2_add 64 = .ok (.iconst 1, 1) := by decide +kernel
theorem dX2_add_65 : decode cX2_add 65 = .ok (.iadd, 1) := by decide +kernel
theorem dX2_add_66 : decode cX2_add 66 = .ok (.putfield 22, 3) := by decide +kernel
theorem dX2_add_69 : decode cX2_add 69 = .ok (.iconst 1, 1) := by decide +kernel
theorem dX2_add_70 : decode cX2_add 70 = .ok (.ireturn, 1) := by decide +kernel
theorem dX2_isSo_0 : decode cX2_isSo 0 = .ok (.iconst 0, 1) := by decide +kernel
theorem dX2_isSo_1 : decode cX2_isSo 1 = .ok (.istore_n 2, 1) := by decide +kernel
theorem dX2_isSo_2 : decode cX2_isSo 2 = .ok (.iload_n 2, 1) := by decide +kernel
theorem dX2_isSo_3 : decode cX2_isSo 3 = .ok (.aload_n 0, 1) := by decide +kernel
theorem dX2_isSo_4 : decode cX2_isSo 4 = .ok (.getfield 22, 3) := by decide +kernel
theorem dX2_isSo_7 : decode cX2_isSo 7 = .ok (.if_icmp .ge 42, 3) := by decide +kernel
theorem dX2_isSo_10 : decode cX2_isSo 10 = .ok (.aload_n 1, 1) := by decide +kernel
theorem dX2_isSo_11 : decode cX2_isSo 11 = .ok (.aload_n 0, 1) := by decide +kernel
theorem dX2_isSo_12 : decode cX2_isSo 12 = .ok (.getfield 9, 3) := by decide +kernel
theorem dX2_isSo_15 : decode cX2_isSo 15 = .ok (.iload_n 2, 1) := by decide +kernel
theorem dX2_isSo_16 : decode cX2_isSo 16 = .ok (.iaload, 1) := by decide +kernel
theorem dX2_isSo_17 : decode cX2_isSo 17 = .ok (.aload_n 0, 1) := by decide +kernel
theorem dX2_isSo_18 : decode cX2_isSo 18 = .ok (.getfield 13, 3) := by decide +kernel
theorem dX2_isSo_21 : decode cX2_isSo 21 = .ok (.iload_n 2, 1) := by decide +kernel
theorem dX2_isSo_22 : decode cX2_isSo 22 = .ok (.iaload, 1) := by decide +kernel
theorem dX2_isSo_23 : decode cX2_isSo 23 = .ok (.aload_n 0, 1) := by decide +kernel
theorem dX2_isSo_24 : decode cX2_isSo 24 = .ok (.getfield 16, 3) := by decide +kernel
theorem dX2_isSo_27 : decode cX2_isSo 27 = .ok (.iload_n 2, 1) := by decide +kernel
theorem dX2_isSo_28 : decode cX2_isSo 28 = .ok (.iaload, 1) := by decide +kernel
theorem dX2_isSo_29 : decode cX2_isSo 29 = .ok (.invokevirtual 26, 3) := by decide +kernel
theorem dX2_isSo_32 : decode cX2_isSo 32 = .ok (.aload_n 0, 1) := by decide +kernel
theorem dX2_isSo_33 : decode cX2_isSo 33 = .ok (.getfield 19, 3) := by decide +kernel
theorem dX2_isSo_36 : decode cX2_isSo 36 = .ok (.iload_n 2, 1) := by decide +kernel
theorem dX2_isSo_37 : decode cX2_isSo 37 = .ok (.iaload, 1) := by decide +kernel
theorem dX2_isSo_38 : decode cX2_isSo 38 = .ok (.if_icmp .eq 5, 3) := by decide +kernel
theorem dX2_isSo_41 : decode cX2_isSo 41 = .ok (.iconst 0, 1) := by decide +kernel
theorem dX2_isSo_42 : decode cX2_isSo 42 = .ok (.ireturn, 1) := by decide +kernel
theorem dX2_isSo_43 : decode cX2_isSo 43 = .ok (.iinc 2 1, 3) := by decide +kernel
theorem dX2_isSo_46 : decode cX2_isSo 46 = .ok (.goto (-44), 3) := by decide +kernel
theorem dX2_isSo_49 : decode cX2_isSo 49 = .ok (.iconst 1, 1) := by decide +kernel
theorem dX2_isSo_50 : decode cX2_isSo 50 = .ok (.ireturn, 1) := by decide +kernel
theorem dX3_init_0 : decode cX3_init 0 = .ok (.aload_n 0, 1) := by decide +kernel
theorem dX3_init_1 : decode cX3_init 1 = .ok (.invokespecial 1, 3) := by decide +kernel
theorem dX3_init_4 : decode cX3_init 4 = .ok (.aload_n 0, 1) := by decide +kernel
theorem dX3_init_5 : decode cX3_init 5 = .ok (.bipush 6, 2) := by decide +kernel
theorem dX3_init_7 : decode cX3_init 7 = .ok (.newarray .int, 2) := by decide +kernel
theorem dX3_init_9 : decode cX3_init 9 = .ok (.putfield 9, 3) := by decide +kernel
theorem dX3_init_12 : decode cX3_init 12 = .ok (.aload_n 0, 1) := by decide +kernel
theorem dX3_init_13 : decode cX3_init 13 = .ok (.bipush 6, 2) := by decide +kernel
theorem dX3_init_15 : decode cX3_init 15 = .ok (.newarray .int, 2) := by decide +kernel
theorem dX3_init_17 : decode cX3_init 17 = .ok (.putfield 13, 3) := by decide +kernel
theorem dX3_init_20 : decode cX3_init 20 = .ok (.return_, 1) := by decide +kernel
theorem dX3_add_0 : decode cX3_add 0 = .ok (.aload_n 0, 1) := by decide +kernel
theorem dX3_add_1 : decode cX3_add 1 = .ok (.getfield 16, 3) := by decide +kernel
theorem dX3_add_4 : decode cX3_add 4 = .ok (.ifCond .lt 12, 3) := by decide +kernel
theorem dX3_add_7 : decode cX3_add 7 = .ok (.aload_n 0, 1) := by decide +kernel
theorem dX3_add_8 : decode cX3_add 8 = .ok (.getfield 16, 3) := by decide +kernel
theorem dX3_add_11 : decode cX3_add 11 = .ok (.bipush 6, 2) := by decide +kernel
theorem dX3_add_13 : decode cX3_add 13 = .ok (.if_icmp .lt 5, 3) := by decide +kernel
theorem dX3_add_16 : decode cX3_add 16 = .ok (.iconst 0, 1) := by decide +kernel
theorem dX3_add_17 : decode cX3_add 17 = .ok (.ireturn, 1) := by decide +kernel
theorem dX3_add_18 : decode cX3_add 18 = .ok (.aload_n 0, 1) := by decide +kernel
theorem dX3_add_19 : decode cX3_add 19 = .ok (.getfield 9, 3) := by decide +kernel
theorem dX3_add_22 : decode cX3_add 22 = .ok (.aload_n 0, 1) := by decide +kernel
theorem dX3_add_23 : decode cX3_add 23 = .ok (.getfield 16, 3) := by decide +kernel
theorem dX3_add_26 : decode cX3_add 26 = .ok (.iload_n 1, 1) := by decide +kernel
theorem dX3_add_27 : decode cX3_add 27 = .ok (.iastore, 1) := by decide +kernel
theorem dX3_add_28 : decode cX3_add 28 = .ok (.aload_n 0, 1) := by decide +kernel
theorem dX3_add_29 : decode cX3_add 29 = .ok (.getfield 13, 3) := by decide +kernel
theorem dX3_add_32 : decode cX3_add 32 = .ok (.aload_n 0, 1) := by decide +kernel
theorem dX3_add_33 : decode cX3_add 33 = .ok (.getfield 16, 3) := by decide +kernel
theorem dX3_add_36 : decode cX3_add 36 = .ok (.iload_n 2, 1) := by decide +kernel
theorem dX3_add_37 : decode cX3_add 37 = .ok (.iastore, 1) := by decide +kernel
theorem dX3_add_38 : decode cX3_add 38 = .ok (.aload_n 0, 1) := by decide +kernel
theorem dX3_add_39 : decode cX3_add 39 = .ok (.dup, 1) := by decide +kernel
theorem dX3_add_40 : decode cX3_add 40 = .ok (.getfield 16, 3) := by decide +kernel
theorem dX3_add_43 : decode cX3_add 43 = .ok (.iconst 1, 1) := by decide +kernel
theorem dX3_add_44 : decode cX3_add 44 = .ok (.iadd, 1) := by decide +kernel
theorem dX3_add_45 : decode cX3_add 45 = .ok (.putfield 16, 3) := by decide +kernel
theorem dX3_add_48 : decode cX3_add 48 = .ok (.iconst 1, 1) := by decide +kernel
theorem dX3_add_49 : decode cX3_add 49 = .ok (.ireturn, 1) := by decide +kernel
theorem dX3_allows_0 : decode cX3_allows 0 = .ok (.iconst 0, 1) := by decide +kernel
theorem dX3_allows_1 : decode cX3_allows 1 = .ok (.istore_n 3, 1) := by decide +kernel
theorem dX3_allows_2 : decode cX3_allows 2 = .ok (.iload_n 3, 1) := by decide +kernel
theorem dX3_allows_3 : decode cX3_allows 3 = .ok (.aload_n 0, 1) := by decide +kernel
theorem dX3_allows_4 : decode cX3_allows 4 = .ok (.getfield 16, 3) := by decide +kernel
theorem dX3_allows_7 : decode cX3_allows 7 = .ok (.if_icmp .ge 31, 3) := by decide +kernel
theorem dX3_allows_10 : decode cX3_allows 10 = .ok (.aload_n 0, 1) := by decide +kernel
theorem dX3_allows_11 : decode cX3_allows 11 = .ok (.getfield 9, 3) := by decide +kernel
theorem dX3_allows_14 : decode cX3_allows 14 = .ok (.iload_n 3, 1) := by decide +kernel
theorem dX3_allows_15 : decode cX3_allows 15 = .ok (.iaload, 1) := by decide +kernel
theorem dX3_allows_16 : decode cX3_allows 16 = .ok (.iload_n 1, 1) := by decide +kernel
theorem dX3_allows_17 : decode cX3_allows 17 = .ok (.if_icmp .ne 15, 3) := by decide +kernel
theorem dX3_allows_20 : decode cX3_allows 20 = .ok (.aload_n 0, 1) := by decide +kernel
theorem dX3_allows_21 : decode cX3_allows 21 = .ok (.getfield 13, 3) := by decide +kernel
theorem dX3_allows_24 : decode cX3_allows 24 = .ok (.iload_n 3, 1) := by decide +kernel
theorem dX3_allows_25 : decode cX3_allows 25 = .ok (.iaload, 1) := by decide +kernel
theorem dX3_allows_26 : decode cX3_allows 26 = .ok (.iload_n 2, 1) := by decide +kernel
theorem dX3_allows_27 : decode cX3_allows 27 = .ok (.if_icmp .eq 5, 3) := by decide +kernel
theorem dX3_allows_30 : decode cX3_allows 30 = .ok (.iconst 0, 1) := by decide +kernel
theorem dX3_allows_31 : decode cX3_allows 31 = .ok (.ireturn, 1) := by decide +kernel
theorem dX3_allows_32 : decode cX3_allows 32 = .ok (.iinc 3 1, 3) := by decide +kernel
theorem dX3_allows_35 : decode cX3_allows 35 = .ok (.goto (-33), 3) := by decide +kernel
theorem dX3_allows_38 : decode cX3_allows 38 = .ok (.iconst 1, 1) := by decide +kernel
theorem dX3_allows_39 : decode cX3_allows 39 = .ok (.ireturn, 1) := by decide +kernel
theorem dX4_init_0 : decode cX4_init 0 = .ok (.aload_n 0, 1) := by decide +kernel
theorem dX4_init_1 : decode cX4_init 1 = .ok (.invokespecial 3, 3) := by decide +kernel
theorem dX4_init_4 : decode cX4_init 4 = .ok (.aload_n 0, 1) := by decide +kernel
theorem dX4_init_5 : decode cX4_init 5 = .ok (.lconst 1, 1) := by decide +kernel
theorem dX4_init_6 : decode cX4_init 6 = .ok (.putfield 9, 3) := by decide +kernel
theorem dX4_init_9 : decode cX4_init 9 = .ok (.aload_n 0, 1) := by decide +kernel
theorem dX4_init_10 : decode cX4_init 10 = .ok (.bipush 10, 2) := by decide +kernel
theorem dX4_init_12 : decode cX4_init 12 = .ok (.newarray .long, 2) := by decide +kernel
theorem dX4_init_14 : decode cX4_init 14 = .ok (.putfield 15, 3) := by decide +kernel
theorem dX4_init_17 : decode cX4_init 17 = .ok (.aload_n 0, 1) := by decide +kernel
theorem dX4_init_18 : decode cX4_init 18 = .ok (.bipush 10, 2) := by decide +kernel
theorem dX4_init_20 : decode cX4_init 20 = .ok (.newarray .long, 2) := by decide +kernel
theorem dX4_init_22 : decode cX4_init 22 = .ok (.putfield 19, 3) := by decide +kernel
theorem dX4_init_25 : decode cX4_init 25 = .ok (.return_, 1) := by decide +kernel
theorem dX4_waking_0 : decode cX4_waking 0 = .ok (.aload_n 0, 1) := by decide +kernel
theorem dX4_waking_1 : decode cX4_waking 1 = .ok (.aload_n 1, 1) := by decide +kernel
theorem dX4_waking_2 : decode cX4_waking 2 = .ok (.getfield 22, 3) := by decide +kernel
theorem dX4_waking_5 : decode cX4_waking 5 = .ok (.invokevirtual 28, 3) := by decide +kernel
theorem dX4_waking_8 : decode cX4_waking 8 = .ok (.iconst 0, 1) := by decide +kernel
theorem dX4_waking_9 : decode cX4_waking 9 = .ok (.istore 4, 2) := by decide +kernel
theorem dX4_waking_11 : decode cX4_waking 11 = .ok (.iload 4, 2) := by decide +kernel
theorem dX4_waking_13 : decode cX4_waking 13 = .ok (.iload_n 2, 1) := by decide +kernel
theorem dX4_waking_14 : decode cX4_waking 14 = .ok (.if_icmp .ge 29, 3) := by decide +kernel
theorem dX4_waking_17 : decode cX4_waking 17 = .ok (.iload 4, 2) := by decide +kernel
theorem dX4_waking_19 : decode cX4_waking 19 = .ok (.iload_n 3, 1) := by decide +kernel
theorem dX4_waking_20 : decode cX4_waking 20 = .ok (.if_icmp .ne 7, 3) := by decide +kernel
theorem dX4_waking_23 : decode cX4_waking 23 = .ok (.aload_n 0, 1) := by decide +kernel
theorem dX4_waking_24 : decode cX4_waking 24 = .ok (.invokevirtual 32, 3) := by decide +kernel
theorem dX4_waking_27 : decode cX4_waking 27 = .ok (.aload_n 0, 1) := by decide +kernel
theorem dX4_waking_28 : decode cX4_waking 28 = .ok (.aload_n 1, 1) := by decide +kernel
theorem dX4_waking_29 : decode cX4_waking 29 = .ok (.iload 4, 2) := by decide +kernel
theorem dX4_waking_31 : decode cX4_waking 31 = .ok (.invokevirtual 35, 3) := by decide +kernel
theorem dX4_waking_34 : decode cX4_waking 34 = .ok (.invokevirtual 39, 3) := by decide +kernel
theorem dX4_waking_37 : decode cX4_waking 37 = .ok (.iinc 4 1, 3) := by decide +kernel
theorem dX4_waking_40 : decode cX4_waking 40 = .ok (.goto (-29), 3) := by decide +kernel
theorem dX4_waking_43 : decode cX4_waking 43 = .ok (.aload_n 0, 1) := by decide +kernel
theorem dX4_waking_44 : decode cX4_waking 44 = .ok (.getfield 15, 3) := by decide +kernel
theorem dX4_waking_47 : decode cX4_waking 47 = .ok (.iconst 0, 1) := by decide +kernel
theorem dX4_waking_48 : decode cX4_waking 48 = .ok (.laload, 1) := by decide +kernel
theorem dX4_waking_49 : decode cX4_waking 49 = .ok (.lreturn, 1) := by decide +kernel
theorem dX4_begin_0 : decode cX4_begin 0 = .ok (.aload_n 0, 1) := by decide +kernel
theorem dX4_begin_1 : decode cX4_begin 1 = .ok (.lconst 1, 1) := by decide +kernel
theorem dX4_begin_2 : decode cX4_begin 2 = .ok (.putfield 9, 3) := by decide +kernel
theorem dX4_begin_5 : decode cX4_begin 5 = .ok (.iconst 0, 1) := by decide +kernel
theorem dX4_begin_6 : decode cX4_begin 6 = .ok (.istore_n 2, 1) := by decide +kernel
theorem dX4_begin_7 : decode cX4_begin 7 = .ok (.iload_n 2, 1) := by decide +kernel
theorem dX4_begin_8 : decode cX4_begin 8 = .ok (.bipush 10, 2) := by decide +kernel
theorem dX4_begin_10 : decode cX4_begin 10 = .ok (.if_icmp .ge 25, 3) := by decide +kernel
theorem dX4_begin_13 : decode cX4_begin 13 = .ok (.aload_n 0, 1) := by decide +kernel
theorem dX4_begin_14 : decode cX4_begin 14 = .ok (.getfield 15, 3) := by decide +kernel
theorem dX4_begin_17 : decode cX4_begin 17 = .ok (.iload_n 2, 1) := by decide +kernel
theorem dX4_begin_18 : decode cX4_begin 18 = .ok (.iload_n 2, 1) := by decide +kernel
theorem dX4_begin_19 : decode cX4_begin 19 = .ok (.iload_n 1, 1) := by decide +kernel
theorem dX4_begin_20 : decode cX4_begin 20 = .ok (.if_icmp .ne 7, 3) := by decide +kernel
theorem dX4_begin_23 : decode cX4_begin 23 = .ok (.lconst 1, 1) := by decide +kernel
theorem dX4_begin_24 : decode cX4_begin 24 = .ok (.goto 4, 3) := by decide +kernel
theorem dX4_begin_27 : decode cX4_begin 27 = .ok (.lconst 0, 1) := by decide +kernel
theorem dX4_begin_28 : decode cX4_begin 28 = .ok (.lastore, 1) := by decide +kernel
theorem dX4_begin_29 : decode cX4_begin 29 = .ok (.iinc 2 1, 3) := by decide +kernel
theorem dX4_begin_32 : decode cX4_begin 32 = .ok (.goto (-25), 3) := by decide +kernel
theorem dX4_begin_35 : decode cX4_begin 35 = .ok (.return_, 1) := by decide +kernel
theorem dX4_takeAhead_0 : decode cX4_takeAhead 0 = .ok (.iconst 0, 1) := by decide +kernel
theorem dX4_takeAhead_1 : decode cX4_takeAhead 1 = .ok (.istore_n 1, 1) := by decide +kernel
theorem dX4_takeAhead_2 : decode cX4_takeAhead 2 = .ok (.iload_n 1, 1) := by decide +kernel
theorem dX4_takeAhead_3 : decode cX4_takeAhead 3 = .ok (.bipush 10, 2) := by decide +kernel
theorem dX4_takeAhead_5 : decode cX4_takeAhead 5 = .ok (.if_icmp .ge 28, 3) := by decide +kernel
theorem dX4_takeAhead_8 : decode cX4_takeAhead 8 = .ok (.aload_n 0, 1) := by decide +kernel
theorem dX4_takeAhead_9 : decode cX4_takeAhead 9 = .ok (.getfield 19, 3) := by decide +kernel
theorem dX4_takeAhead_12 : decode cX4_takeAhead 12 = .ok (.iload_n 1, 1) := by decide +kernel
theorem dX4_takeAhead_13 : decode cX4_takeAhead 13 = .ok (.aload_n 0, 1) := by decide +kernel
theorem dX4_takeAhead_14 : decode cX4_takeAhead 14 = .ok (.getfield 15, 3) := by decide +kernel
theorem dX4_takeAhead_17 : decode cX4_takeAhead 17 = .ok (.iload_n 1, 1) := by decide +kernel
theorem dX4_takeAhead_18 : decode cX4_takeAhead 18 = .ok (.laload, 1) := by decide +kernel
theorem dX4_takeAhead_19 : decode cX4_takeAhead 19 = .ok (.lastore, 1) := by decide +kernel
theorem dX4_takeAhead_20 : decode cX4_takeAhead 20 = .ok (.aload_n 0, 1) := by decide +kernel
theorem dX4_takeAhead_21 : decode cX4_takeAhead 21 = .ok (.getfield 15, 3) := by decide +kernel
theorem dX4_takeAhead_24 : decode cX4_takeAhead 24 = .ok (.iload_n 1, 1) := by decide +kernel
theorem dX4_takeAhead_25 : decode cX4_takeAhead 25 = .ok (.lconst 0, 1) := by decide +kernel
theorem dX4_takeAhead_26 : decode cX4_takeAhead 26 = .ok (.lastore, 1) := by decide +kernel
theorem dX4_takeAhead_27 : decode cX4_takeAhead 27 = .ok (.iinc 1 1, 3) := by decide +kernel
theorem dX4_takeAhead_30 : decode cX4_takeAhead 30 = .ok (.goto (-28), 3) := by decide +kernel
theorem dX4_takeAhead_33 : decode cX4_takeAhead 33 = .ok (.return_, 1) := by decide +kernel
theorem dX4_pass_0 : decode cX4_pass 0 = .ok (.aload_n 0, 1) := by decide +kernel
theorem dX4_pass_1 : decode cX4_pass 1 = .ok (.invokevirtual 42, 3) := by decide +kernel
theorem dX4_pass_4 : decode cX4_pass 4 = .ok (.aload_n 0, 1) := by decide +kernel
theorem dX4_pass_5 : decode cX4_pass 5 = .ok (.dup, 1) := by decide +kernel
theorem dX4_pass_6 : decode cX4_pass 6 = .ok (.getfield 9, 3) := by decide +kernel
theorem dX4_pass_9 : decode cX4_pass 9 = .ok (.ldc2_w 45, 3) := by decide +kernel
theorem dX4_pass_12 : decode cX4_pass 12 = .ok (.lmul, 1) := by decide +kernel
theorem dX4_pass_13 : decode cX4_pass 13 = .ok (.putfield 9, 3) := by decide +kernel
theorem dX4_pass_16 : decode cX4_pass 16 = .ok (.aload_n 0, 1) := by decide +kernel
theorem dX4_pass_17 : decode cX4_pass 17 = .ok (.getfield 15, 3) := by decide +kernel
theorem dX4_pass_20 : decode cX4_pass 20 = .ok (.iconst 0, 1) := by decide +kernel
theorem dX4_pass_21 : decode cX4_pass 21 = .ok (.aload_n 0, 1) := by decide +kernel
theorem dX4_pass_22 : decode cX4_pass 22 = .ok (.getfield 19, 3) := by decide +kernel
theorem dX4_pass_25 : decode cX4_pass 25 = .ok (.iconst 0, 1) := by decide +kernel
theorem dX4_pass_26 : decode cX4_pass 26 = .ok (.laload, 1) := by decide +kernel
theorem dX4_pass_27 : decode cX4_pass 27 = .ok (.ldc2_w 45, 3) := by decide +kernel
theorem dX4_pass_30 : decode cX4_pass 30 = .ok (.lmul, 1) := by decide +kernel
theorem dX4_pass_31 : decode cX4_pass 31 = .ok (.lastore, 1) := by decide +kernel
theorem dX4_pass_32 : decode cX4_pass 32 = .ok (.iconst 1, 1) := by decide +kernel
theorem dX4_pass_33 : decode cX4_pass 33 = .ok (.istore_n 2, 1) := by decide +kernel
theorem dX4_pass_34 : decode cX4_pass 34 = .ok (.iload_n 2, 1) := by decide +kernel
theorem dX4_pass_35 : decode cX4_pass 35 = .ok (.bipush 10, 2) := by decide +kernel
theorem dX4_pass_37 : decode cX4_pass 37 = .ok (.if_icmp .ge 57, 3) := by decide +kernel
theorem dX4_pass_40 : decode cX4_pass 40 = .ok (.aload_n 0, 1) := by decide +kernel
theorem dX4_pass_41 : decode cX4_pass 41 = .ok (.getfield 15, 3) := by decide +kernel
theorem dX4_pass_44 : decode cX4_pass 44 = .ok (.iload_n 2, 1) := by decide +kernel
theorem dX4_pass_45 : decode cX4_pass 45 = .ok (.iconst 1, 1) := by decide +kernel
theorem dX4_pass_46 : decode cX4_pass 46 = .ok (.isub, 1) := by decide +kernel
theorem dX4_pass_47 : decode cX4_pass 47 = .ok (.dup2, 1) := by decide +kernel
theorem dX4_pass_48 : decode cX4_pass 48 = .ok (.laload, 1) := by decide +kernel
theorem dX4_pass_49 : decode cX4_pass 49 = .ok (.aload_n 0, 1) := by decide +kernel
theorem dX4_pass_50 : decode cX4_pass 50 = .ok (.getfield 19, 3) := by decide +kernel
theorem dX4_pass_53 : decode cX4_pass 53 = .ok (.iload_n 2, 1) := by decide +kernel
theorem dX4_pass_54 : decode cX4_pass 54 = .ok (.laload, 1) := by decide +kernel
theorem dX4_pass_55 : decode cX4_pass 55 = .ok (.iload_n 1, 1) := by decide +kernel
theorem dX4_pass_56 : decode cX4_pass 56 = .ok (.i2l, 1) := by decide +kernel
theorem dX4_pass_57 : decode cX4_pass 57 = .ok (.lmul, 1) := by decide +kernel
theorem dX4_pass_58 : decode cX4_pass 58 = .ok (.ladd, 1) := by decide +kernel
theorem dX4_pass_59 : decode cX4_pass 59 = .ok (.lastore, 1) := by decide +kernel
theorem dX4_pass_60 : decode cX4_pass 60 = .ok (.aload_n 0, 1) := by decide +kernel
theorem dX4_pass_61 : decode cX4_pass 61 = .ok (.getfield 15, 3) := by decide +kernel
theorem dX4_pass_64 : decode cX4_pass 64 = .ok (.bipush 9, 2) := by decide +kernel
theorem dX4_pass_66 : decode cX4_pass 66 = .ok (.iload_n 2, 1) := by decide +kernel
theorem dX4_pass_67 : decode cX4_pass 67 = .ok (.iconst 1, 1) := by decide +kernel
theorem dX4_pass_68 : decode cX4_pass 68 = .ok (.iadd, 1) := by decide +kernel
theorem dX4_pass_69 : decode cX4_pass 69 = .ok (.invokestatic 47, 3) := by decide +kernel
theorem dX4_pass_72 : decode cX4_pass 72 = .ok (.dup2, 1) := by decide +kernel
theorem dX4_pass_73 : decode cX4_pass 73 = .ok (.laload, 1) := by decide +kernel
theorem dX4_pass_74 : decode cX4_pass 74 = .ok (.aload_n 0, 1) := by decide +kernel
theorem dX4_pass_75 : decode cX4_pass 75 = .ok (.getfield 19, 3) := by decide +kernel
theorem dX4_pass_78 : decode cX4_pass 78 = .ok (.iload_n 2, 1) := by decide +kernel
theorem dX4_pass_79 : decode cX4_pass 79 = .ok (.laload, 1) := by decide +kernel
theorem dX4_pass_80 : decode cX4_pass 80 = .ok (.bipush 20, 2) := by decide +kernel
theorem dX4_pass_82 : decode cX4_pass 82 = .ok (.iload_n 1, 1) := by decide +kernel
theorem dX4_pass_83 : decode cX4_pass 83 = .ok (.isub, 1) := by decide +kernel
theorem dX4_pass_84 : decode cX4_pass 84 = .ok (.i2l, 1) := by decide +kernel
theorem dX4_pass_85 : decode cX4_pass 85 = .ok (.lmul, 1) := by decide +kernel
theorem dX4_pass_86 : decode cX4_pass 86 = .ok (.ladd, 1) := by decide +kernel
theorem dX4_pass_87 : decode cX4_pass 87 = .ok (.lastore, 1) := by decide +kernel
theorem dX4_pass_88 : decode cX4_pass 88 = .ok (.iinc 2 1, 3) := by decide +kernel
theorem dX4_pass_91 : decode cX4_pass 91 = .ok (.goto (-57), 3) := by decide +kernel
theorem dX4_pass_94 : decode cX4_pass 94 = .ok (.return_, 1) := by decide +kernel
theorem dX4_deepen_0 : decode cX4_deepen 0 = .ok (.aload_n 0, 1) := by decide +kernel
theorem dX4_deepen_1 : decode cX4_deepen 1 = .ok (.invokevirtual 42, 3) := by decide +kernel
theorem dX4_deepen_4 : decode cX4_deepen 4 = .ok (.aload_n 0, 1) := by decide +kernel
theorem dX4_deepen_5 : decode cX4_deepen 5 = .ok (.getfield 15, 3) := by decide +kernel
theorem dX4_deepen_8 : decode cX4_deepen 8 = .ok (.iconst 0, 1) := by decide +kernel
theorem dX4_deepen_9 : decode cX4_deepen 9 = .ok (.aload_n 0, 1) := by decide +kernel
theorem dX4_deepen_10 : decode cX4_deepen 10 = .ok (.getfield 19, 3) := by decide +kernel
theorem dX4_deepen_13 : decode cX4_deepen 13 = .ok (.iconst 0, 1) := by decide +kernel
theorem dX4_deepen_14 : decode cX4_deepen 14 = .ok (.laload, 1) := by decide +kernel
theorem dX4_deepen_15 : decode cX4_deepen 15 = .ok (.lastore, 1) := by decide +kernel
theorem dX4_deepen_16 : decode cX4_deepen 16 = .ok (.iconst 1, 1) := by decide +kernel
theorem dX4_deepen_17 : decode cX4_deepen 17 = .ok (.istore_n 1, 1) := by decide +kernel
theorem dX4_deepen_18 : decode cX4_deepen 18 = .ok (.iload_n 1, 1) := by decide +kernel
theorem dX4_deepen_19 : decode cX4_deepen 19 = .ok (.bipush 10, 2) := by decide +kernel
theorem dX4_deepen_21 : decode cX4_deepen 21 = .ok (.if_icmp .ge 31, 3) := by decide +kernel
theorem dX4_deepen_24 : decode cX4_deepen 24 = .ok (.aload_n 0, 1) := by decide +kernel
theorem dX4_deepen_25 : decode cX4_deepen 25 = .ok (.getfield 15, 3) := by decide +kernel
theorem dX4_deepen_28 : decode cX4_deepen 28 = .ok (.bipush 9, 2) := by decide +kernel
theorem dX4_deepen_30 : decode cX4_deepen 30 = .ok (.iload_n 1, 1) := by decide +kernel
theorem dX4_deepen_31 : decode cX4_deepen 31 = .ok (.iconst 2, 1) := by decide +kernel
theorem dX4_deepen_32 : decode cX4_deepen 32 = .ok (.iadd, 1) := by decide +kernel
theorem dX4_deepen_33 : decode cX4_deepen 33 = .ok (.invokestatic 47, 3) := by decide +kernel
theorem dX4_deepen_36 : decode cX4_deepen 36 = .ok (.dup2, 1) := by decide +kernel
theorem dX4_deepen_37 : decode cX4_deepen 37 = .ok (.laload, 1) := by decide +kernel
theorem dX4_deepen_38 : decode cX4_deepen 38 = .ok (.aload_n 0, 1) := by decide +kernel
theorem dX4_deepen_39 : decode cX4_deepen 39 = .ok (.getfield 19, 3) := by decide +kernel
theorem dX4_deepen_42 : decode cX4_deepen 42 = .ok (.iload_n 1, 1) := by decide +kernel
theorem dX4_deepen_43 : decode cX4_deepen 43 = .ok (.laload, 1) := by decide +kernel
theorem dX4_deepen_44 : decode cX4_deepen 44 = .ok (.ladd, 1) := by decide +kernel
theorem dX4_deepen_45 : decode cX4_deepen 45 = .ok (.lastore, 1) := by decide +kernel
theorem dX4_deepen_46 : decode cX4_deepen 46 = .ok (.iinc 1 1, 3) := by decide +kernel
theorem dX4_deepen_49 : decode cX4_deepen 49 = .ok (.goto (-31), 3) := by decide +kernel
theorem dX4_deepen_52 : decode cX4_deepen 52 = .ok (.return_, 1) := by decide +kernel
theorem dX5_init_0 : decode cX5_init 0 = .ok (.aload_n 0, 1) := by decide +kernel
theorem dX5_init_1 : decode cX5_init 1 = .ok (.invokespecial 3, 3) := by decide +kernel
theorem dX5_init_4 : decode cX5_init 4 = .ok (.aload_n 0, 1) := by decide +kernel
theorem dX5_init_5 : decode cX5_init 5 = .ok (.new 9, 3) := by decide +kernel
theorem dX5_init_8 : decode cX5_init 8 = .ok (.dup, 1) := by decide +kernel
theorem dX5_init_9 : decode cX5_init 9 = .ok (.invokespecial 11, 3) := by decide +kernel
theorem dX5_init_12 : decode cX5_init 12 = .ok (.putfield 12, 3) := by decide +kernel
theorem dX5_init_15 : decode cX5_init 15 = .ok (.aload_n 0, 1) := by decide +kernel
theorem dX5_init_16 : decode cX5_init 16 = .ok (.new 18, 3) := by decide +kernel
theorem dX5_init_19 : decode cX5_init 19 = .ok (.dup, 1) := by decide +kernel
theorem dX5_init_20 : decode cX5_init 20 = .ok (.invokespecial 20, 3) := by decide +kernel
theorem dX5_init_23 : decode cX5_init 23 = .ok (.putfield 21, 3) := by decide +kernel
theorem dX5_init_26 : decode cX5_init 26 = .ok (.return_, 1) := by decide +kernel
theorem dX5_readAll_0 : decode cX5_readAll 0 = .ok (.aload_n 0, 1) := by decide +kernel
theorem dX5_readAll_1 : decode cX5_readAll 1 = .ok (.invokevirtual 25, 3) := by decide +kernel
theorem dX5_readAll_4 : decode cX5_readAll 4 = .ok (.aload_n 0, 1) := by decide +kernel
theorem dX5_readAll_5 : decode cX5_readAll 5 = .ok (.invokevirtual 28, 3) := by decide +kernel
theorem dX5_readAll_8 : decode cX5_readAll 8 = .ok (.pop, 1) := by decide +kernel
theorem dX5_readAll_9 : decode cX5_readAll 9 = .ok (.iconst 0, 1) := by decide +kernel
theorem dX5_readAll_10 : decode cX5_readAll 10 = .ok (.istore_n 1, 1) := by decide +kernel
theorem dX5_readAll_11 : decode cX5_readAll 11 = .ok (.iload_n 1, 1) := by decide +kernel
theorem dX5_readAll_12 : decode cX5_readAll 12 = .ok (.aload_n 0, 1) := by decide +kernel
theorem dX5_readAll_13 : decode cX5_readAll 13 = .ok (.getfield 12, 3) := by decide +kernel
theorem dX5_readAll_16 : decode cX5_readAll 16 = .ok (.getfield 32, 3) := by decide +kernel
theorem dX5_readAll_19 : decode cX5_readAll 19 = .ok (.if_icmp .gt 45, 3) := by decide +kernel
theorem dX5_readAll_22 : decode cX5_readAll 22 = .ok (.aload_n 0, 1) := by decide +kernel
theorem dX5_readAll_23 : decode cX5_readAll 23 = .ok (.getfield 36, 3) := by decide +kernel
theorem dX5_readAll_26 : decode cX5_readAll 26 = .ok (.ifCond .ne 38, 3) := by decide +kernel
theorem dX5_readAll_29 : decode cX5_readAll 29 = .ok (.aload_n 0, 1) := by decide +kernel
theorem dX5_readAll_30 : decode cX5_readAll 30 = .ok (.getfield 39, 3) := by decide +kernel
theorem dX5_readAll_33 : decode cX5_readAll 33 = .ok (.ifCond .eq 31, 3) := by decide +kernel
theorem dX5_readAll_36 : decode cX5_readAll 36 = .ok (.aload_n 0, 1) := by decide +kernel
theorem dX5_readAll_37 : decode cX5_readAll 37 = .ok (.invokevirtual 42, 3) := by decide +kernel
theorem dX5_readAll_40 : decode cX5_readAll 40 = .ok (.ifCond .eq 18, 3) := by decide +kernel
theorem dX5_readAll_43 : decode cX5_readAll 43 = .ok (.aload_n 0, 1) := by decide +kernel
theorem dX5_readAll_44 : decode cX5_readAll 44 = .ok (.dup, 1) := by decide +kernel
theorem dX5_readAll_45 : decode cX5_readAll 45 = .ok (.getfield 45, 3) := by decide +kernel
theorem dX5_readAll_48 : decode cX5_readAll 48 = .ok (.iconst 1, 1) := by decide +kernel
theorem dX5_readAll_49 : decode cX5_readAll 49 = .ok (.iadd, 1) := by decide +kernel
theorem dX5_readAll_50 : decode cX5_readAll 50 = .ok (.putfield 45, 3) := by decide +kernel
theorem dX5_readAll_53 : decode cX5_readAll 53 = .ok (.aload_n 0, 1) := by decide +kernel
theorem dX5_readAll_54 : decode cX5_readAll 54 = .ok (.invokevirtual 28, 3) := by decide +kernel
theorem dX5_readAll_57 : decode cX5_readAll 57 = .ok (.pop, 1) := by decide +kernel
theorem dX5_readAll_58 : decode cX5_readAll 58 = .ok (.iinc 1 1, 3) := by decide +kernel
theorem dX5_readAll_61 : decode cX5_readAll 61 = .ok (.goto (-50), 3) := by decide +kernel
theorem dX5_readAll_64 : decode cX5_readAll 64 = .ok (.aload_n 0, 1) := by decide +kernel
theorem dX5_readAll_65 : decode cX5_readAll 65 = .ok (.getfield 36, 3) := by decide +kernel
theorem dX5_readAll_68 : decode cX5_readAll 68 = .ok (.ifCond .ne 7, 3) := by decide +kernel
theorem dX5_readAll_71 : decode cX5_readAll 71 = .ok (.aload_n 0, 1) := by decide +kernel
theorem dX5_readAll_72 : decode cX5_readAll 72 = .ok (.invokevirtual 48, 3) := by decide +kernel
theorem dX5_readAll_75 : decode cX5_readAll 75 = .ok (.return_, 1) := by decide +kernel
theorem dX5_begin_0 : decode cX5_begin 0 = .ok (.aload_n 0, 1) := by decide +kernel
theorem dX5_begin_1 : decode cX5_begin 1 = .ok (.getfield 21, 3) := by decide +kernel
theorem dX5_begin_4 : decode cX5_begin 4 = .ok (.invokevirtual 51, 3) := by decide +kernel
theorem dX5_begin_7 : decode cX5_begin 7 = .ok (.aload_n 0, 1) := by decide +kernel
theorem dX5_begin_8 : decode cX5_begin 8 = .ok (.iconst 0, 1) := by decide +kernel
theorem dX5_begin_9 : decode cX5_begin 9 = .ok (.putfield 36, 3) := by decide +kernel
theorem dX5_begin_12 : decode cX5_begin 12 = .ok (.aload_n 0, 1) := by decide +kernel
theorem dX5_begin_13 : decode cX5_begin 13 = .ok (.iconst 0, 1) := by decide +kernel
theorem dX5_begin_14 : decode cX5_begin 14 = .ok (.putfield 54, 3) := by decide +kernel
theorem dX5_begin_17 : decode cX5_begin 17 = .ok (.aload_n 0, 1) := by decide +kernel
theorem dX5_begin_18 : decode cX5_begin 18 = .ok (.iconst 0, 1) := by decide +kernel
theorem dX5_begin_19 : decode cX5_begin 19 = .ok (.putfield 45, 3) := by decide +kernel
theorem dX5_begin_22 : decode cX5_begin 22 = .ok (.aload_n 0, 1) := by decide +kernel
theorem dX5_begin_23 : decode cX5_begin 23 = .ok (.iconst 0, 1) := by decide +kernel
theorem dX5_begin_24 : decode cX5_begin 24 = .ok (.putfield 57, 3) := by decide +kernel
theorem dX5_begin_27 : decode cX5_begin 27 = .ok (.aload_n 0, 1) := by decide +kernel
theorem dX5_begin_28 : decode cX5_begin 28 = .ok (.iconst 0, 1) := by decide +kernel
theorem dX5_begin_29 : decode cX5_begin 29 = .ok (.putfield 60, 3) := by decide +kernel
theorem dX5_begin_32 : decode cX5_begin 32 = .ok (.aload_n 0, 1) := by decide +kernel
theorem dX5_begin_33 : decode cX5_begin 33 = .ok (.iconst 0, 1) := by decide +kernel
theorem dX5_begin_34 : decode cX5_begin 34 = .ok (.putfield 64, 3) := by decide +kernel
theorem dX5_begin_37 : decode cX5_begin 37 = .ok (.aload_n 0, 1) := by decide +kernel
theorem dX5_begin_38 : decode cX5_begin 38 = .ok (.bipush (-4), 2) := by decide +kernel
theorem dX5_begin_40 : decode cX5_begin 40 = .ok (.putfield 67, 3) := by decide +kernel
theorem dX5_begin_43 : decode cX5_begin 43 = .ok (.aload_n 0, 1) := by decide +kernel
theorem dX5_begin_44 : decode cX5_begin 44 = .ok (.bipush (-4), 2) := by decide +kernel
theorem dX5_begin_46 : decode cX5_begin 46 = .ok (.putfield 70, 3) := by decide +kernel
theorem dX5_begin_49 : decode cX5_begin 49 = .ok (.return_, 1) := by decide +kernel
theorem dX5_refuse_0 : decode cX5_refuse 0 = .ok (.aload_n 0, 1) := by decide +kernel
theorem dX5_refuse_1 : decode cX5_refuse 1 = .ok (.getfield 36, 3) := by decide +kernel
theorem dX5_refuse_4 : decode cX5_refuse 4 = .ok (.ifCond .ne 13, 3) := by decide +kernel
theorem dX5_refuse_7 : decode cX5_refuse 7 = .ok (.aload_n 0, 1) := by decide +kernel
theorem dX5_refuse_8 : decode cX5_refuse 8 = .ok (.iload_n 1, 1) := by decide +kernel
theorem dX5_refuse_9 : decode cX5_refuse 9 = .ok (.putfield 36, 3) := by decide +kernel
theorem dX5_refuse_12 : decode cX5_refuse 12 = .ok (.aload_n 0, 1) := by decide +kernel
theorem dX5_refuse_13 : decode cX5_refuse 13 = .ok (.iload_n 2, 1) := by decide +kernel
theorem dX5_refuse_14 : decode cX5_refuse 14 = .ok (.putfield 54, 3) := by decide +kernel
theorem dX5_refuse_17 : decode cX5_refuse 17 = .ok (.iconst 0, 1) := by decide +kernel
theorem dX5_refuse_18 : decode cX5_refuse 18 = .ok (.ireturn, 1) := by decide +kernel
theorem dX5_nextToken_0 : decode cX5_nextToken 0 = .ok (.aload_n 0, 1) := by decide +kernel
theorem dX5_nextToken_1 : decode cX5_nextToken 1 = .ok (.aload_n 0, 1) := by decide +kernel
theorem dX5_nextToken_2 : decode cX5_nextToken 2 = .ok (.getfield 12, 3) := by decide +kernel
theorem dX5_nextToken_5 : decode cX5_nextToken 5 = .ok (.aload_n 0, 1) := by decide +kernel
theorem dX5_nextToken_6 : decode cX5_nextToken 6 = .ok (.getfield 57, 3) := by decide +kernel
theorem dX5_nextToken_9 : decode cX5_nextToken 9 = .ok (.bipush 32, 2) := by decide +kernel
theorem dX5_nextToken_11 : decode cX5_nextToken 11 = .ok (.bipush 32, 2) := by decide +kernel
theorem dX5_nextToken_13 : decode cX5_nextToken 13 = .ok (.invokevirtual 73, 3) := by decide +kernel
theorem dX5_nextToken_16 : decode cX5_nextToken 16 = .ok (.putfield 77, 3) := by decide +kernel
theorem dX5_nextToken_19 : decode cX5_nextToken 19 = .ok (.aload_n 0, 1) := by decide +kernel
theorem dX5_nextToken_20 : decode cX5_nextToken 20 = .ok (.aload_n 0, 1) := by decide +kernel
theorem dX5_nextToken_21 : decode cX5_nextToken 21 = .ok (.getfield 77, 3) := by decide +kernel
theorem dX5_nextToken_24 : decode cX5_nextToken 24 = .ok (.putfield 57, 3) := by decide +kernel
theorem dX5_nextToken_27 : decode cX5_nextToken 27 = .ok (.aload_n 0, 1) := by decide +kernel
theorem dX5_nextToken_28 : decode cX5_nextToken 28 = .ok (.getfield 12, 3) := by decide +kernel
theorem dX5_nextToken_31 : decode cX5_nextToken 31 = .ok (.aload_n 0, 1) := by decide +kernel
theorem dX5_nextToken_32 : decode cX5_nextToken 32 = .ok (.getfield 77, 3) := by decide +kernel
theorem dX5_nextToken_35 : decode cX5_nextToken 35 = .ok (.invokevirtual 80, 3) := by decide +kernel
theorem dX5_nextToken_38 : decode cX5_nextToken 38 = .ok (.istore_n 1, 1) := by decide +kernel
theorem dX5_nextToken_39 : decode cX5_nextToken 39 = .ok (.aload_n 0, 1) := by decide +kernel
theorem dX5_nextToken_40 : decode cX5_nextToken 40 = .ok (.getfield 77, 3) := by decide +kernel
theorem dX5_nextToken_43 : decode cX5_nextToken 43 = .ok (.aload_n 0, 1) := by decide +kernel
theorem dX5_nextToken_44 : decode cX5_nextToken 44 = .ok (.getfield 12, 3) := by decide +kernel
theorem dX5_nextToken_47 : decode cX5_nextToken 47 = .ok (.getfield 32, 3) := by decide +kernel
theorem dX5_nextToken_50 : decode cX5_nextToken 50 = .ok (.if_icmp .lt 11, 3) := by decide +kernel
theorem dX5_nextToken_53 : decode cX5_nextToken 53 = .ok (.aload_n 0, 1) := by decide +kernel
theorem dX5_nextToken_54 : decode cX5_nextToken 54 = .ok (.iconst 0, 1) := by decide +kernel
theorem dX5_nextToken_55 : decode cX5_nextToken 55 = .ok (.putfield 39, 3) := by decide +kernel
theorem dX5_nextToken_58 : decode cX5_nextToken 58 = .ok (.goto 143, 3) := by decide +kernel
theorem dX5_nextToken_61 : decode cX5_nextToken 61 = .ok (.iload_n 1, 1) := by decide +kernel
theorem dX5_nextToken_62 : decode cX5_nextToken 62 = .ok (.bipush 97, 2) := by decide +kernel
theorem dX5_nextToken_64 : decode cX5_nextToken 64 = .ok (.if_icmp .lt 36, 3) := by decide +kernel
theorem dX5_nextToken_67 : decode cX5_nextToken 67 = .ok (.iload_n 1, 1) := by decide +kernel
theorem dX5_nextToken_68 : decode cX5_nextToken 68 = .ok (.bipush 122, 2) := by decide +kernel
theorem dX5_nextToken_70 : decode cX5_nextToken 70 = .ok (.if_icmp .gt 30, 3) := by decide +kernel
theorem dX5_nextToken_73 : decode cX5_nextToken 73 = .ok (.aload_n 0, 1) := by decide +kernel
theorem dX5_nextToken_74 : decode cX5_nextToken 74 = .ok (.iconst 1, 1) := by decide +kernel
theorem dX5_nextToken_75 : decode cX5_nextToken 75 = .ok (.putfield 39, 3) := by decide +kernel
theorem dX5_nextToken_78 : decode cX5_nextToken 78 = .ok (.aload_n 0, 1) := by decide +kernel
theorem dX5_nextToken_79 : decode cX5_nextToken 79 = .ok (.aload_n 0, 1) := by decide +kernel
theorem dX5_nextToken_80 : decode cX5_nextToken 80 = .ok (.getfield 12, 3) := by decide +kernel
theorem dX5_nextToken_83 : decode cX5_nextToken 83 = .ok (.aload_n 0, 1) := by decide +kernel
theorem dX5_nextToken_84 : decode cX5_nextToken 84 = .ok (.getfield 77, 3) := by decide +kernel
theorem dX5_nextToken_87 : decode cX5_nextToken 87 = .ok (.bipush 97, 2) := by decide +kernel
theorem dX5_nextToken_89 : decode cX5_nextToken 89 = .ok (.bipush 122, 2) := by decide +kernel
theorem dX5_nextToken_91 : decode cX5_nextToken 91 = .ok (.invokevirtual 73, 3) := by decide +kernel
theorem dX5_nextToken_94 : decode cX5_nextToken 94 = .ok (.putfield 57, 3) := by decide +kernel
theorem dX5_nextToken_97 : decode cX5_nextToken 97 = .ok (.goto 104, 3) := by decide +kernel
theorem dX5_nextToken_100 : decode cX5_nextToken 100 = .ok (.iload_n 1, 1) := by decide +kernel
theorem dX5_nextToken_101 : decode cX5_nextToken 101 = .ok (.bipush 48, 2) := by decide +kernel
theorem dX5_nextToken_103 : decode cX5_nextToken 103 = .ok (.if_icmp .lt 64, 3) := by decide +kernel
theorem dX5_nextToken_106 : decode cX5_nextToken 106 = .ok (.iload_n 1, 1) := by decide +kernel
theorem dX5_nextToken_107 : decode cX5_nextToken 107 = .ok (.bipush 57, 2) := by decide +kernel
theorem dX5_nextToken_109 : decode cX5_nextToken 109 = .ok (.if_icmp .gt 58, 3) := by decide +kernel
theorem dX5_nextToken_112 : decode cX5_nextToken 112 = .ok (.aload_n 0, 1) := by decide +kernel
theorem dX5_nextToken_113 : decode cX5_nextToken 113 = .ok (.iconst 2, 1) := by decide +kernel
theorem dX5_nextToken_114 : decode cX5_nextToken 114 = .ok (.putfield 39, 3) := by decide +kernel
theorem dX5_nextToken_117 : decode cX5_nextToken 117 = .ok (.aload_n 0, 1) := by decide +kernel
theorem dX5_nextToken_118 : decode cX5_nextToken 118 = .ok (.aload_n 0, 1) := by decide +kernel
theorem dX5_nextToken_119 : decode cX5_nextToken 119 = .ok (.getfield 12, 3) := by decide +kernel
theorem dX5_nextToken_122 : decode cX5_nextToken 122 = .ok (.aload_n 0, 1) := by decide +kernel
theorem dX5_nextToken_123 : decode cX5_nextToken 123 = .ok (.getfield 77, 3) := by decide +kernel
theorem dX5_nextToken_126 : decode cX5_nextToken 126 = .ok (.bipush 48, 2) := by decide +kernel
theorem dX5_nextToken_128 : decode cX5_nextToken 128 = .ok (.bipush 57, 2) := by decide +kernel
theorem dX5_nextToken_130 : decode cX5_nextToken 130 = .ok (.invokevirtual 73, 3) := by decide +kernel
theorem dX5_nextToken_133 : decode cX5_nextToken 133 = .ok (.putfield 57, 3) := by decide +kernel
theorem dX5_nextToken_136 : decode cX5_nextToken 136 = .ok (.aload_n 0, 1) := by decide +kernel
theorem dX5_nextToken_137 : decode cX5_nextToken 137 = .ok (.getfield 57, 3) := by decide +kernel
theorem dX5_nextToken_140 : decode cX5_nextToken 140 = .ok (.aload_n 0, 1) := by decide +kernel
theorem dX5_nextToken_141 : decode cX5_nextToken 141 = .ok (.getfield 77, 3) := by decide +kernel
theorem dX5_nextToken_144 : decode cX5_nextToken 144 = .ok (.isub, 1) := by decide +kernel
theorem dX5_nextToken_145 : decode cX5_nextToken 145 = .ok (.iconst 2, 1) := by decide +kernel
theorem dX5_nextToken_146 : decode cX5_nextToken 146 = .ok (.if_icmp .le 15, 3) := by decide +kernel
theorem dX5_nextToken_149 : decode cX5_nextToken 149 = .ok (.aload_n 0, 1) := by decide +kernel
theorem dX5_nextToken_150 : decode cX5_nextToken 150 = .ok (.iconst 1, 1) := by decide +kernel
theorem dX5_nextToken_151 : decode cX5_nextToken 151 = .ok (.aload_n 0, 1) := by decide +kernel
theorem dX5_nextToken_152 : decode cX5_nextToken 152 = .ok (.getfield 77, 3) := by decide +kernel
theorem dX5_nextToken_155 : decode cX5_nextToken 155 = .ok (.invokevirtual 84, 3) := by decide +kernel
theorem dX5_nextToken_158 : decode cX5_nextToken 158 = .ok (.ifCond .eq 7, 3) := by decide +kernel
theorem dX5_nextToken_161 : decode cX5_nextToken 161 = .ok (.iconst 1, 1) := by decide +kernel
theorem dX5_nextToken_162 : decode cX5_nextToken 162 = .ok (.goto 4, 3) := by decide +kernel
theorem dX5_nextToken_165 : decode cX5_nextToken 165 = .ok (.iconst 0, 1) := by decide +kernel
theorem dX5_nextToken_166 : decode cX5_nextToken 166 = .ok (.ireturn, 1) := by decide +kernel
theorem dX5_nextToken_167 : decode cX5_nextToken 167 = .ok (.iload_n 1, 1) := by decide +kernel
theorem dX5_nextToken_168 : decode cX5_nextToken 168 = .ok (.bipush 59, 2) := by decide +kernel
theorem dX5_nextToken_170 : decode cX5_nextToken 170 = .ok (.if_icmp .ne 21, 3) := by decide +kernel
theorem dX5_nextToken_173 : decode cX5_nextToken 173 = .ok (.aload_n 0, 1) := by decide +kernel
theorem dX5_nextToken_174 : decode cX5_nextToken 174 = .ok (.iconst 3, 1) := by decide +kernel
theorem dX5_nextToken_175 : decode cX5_nextToken 175 = .ok (.putfield 39, 3) := by decide +kernel
theorem dX5_nextToken_178 : decode cX5_nextToken 178 = .ok (.aload_n 0, 1) := by decide +kernel
theorem dX5_nextToken_179 : decode cX5_nextToken 179 = .ok (.aload_n 0, 1) := by decide +kernel
theorem dX5_nextToken_180 : decode cX5_nextToken 180 = .ok (.getfield 77, 3) := by decide +kernel
theorem dX5_nextToken_183 : decode cX5_nextToken 183 = .ok (.iconst 1, 1) := by decide +kernel
theorem dX5_nextToken_184 : decode cX5_nextToken 184 = .ok (.iadd, 1) := by decide +kernel
theorem dX5_nextToken_185 : decode cX5_nextToken 185 = .ok (.putfield 57, 3) := by decide +kernel
theorem dX5_nextToken_188 : decode cX5_nextToken 188 = .ok (.goto 13, 3) := by decide +kernel
theorem dX5_nextToken_191 : decode cX5_nextToken 191 = .ok (.aload_n 0, 1) := by decide +kernel
theorem dX5_nextToken_192 : decode cX5_nextToken 192 = .ok (.iconst 1, 1) := by decide +kernel
theorem dX5_nextToken_193 : decode cX5_nextToken 193 = .ok (.aload_n 0, 1) := by decide +kernel
theorem dX5_nextToken_194 : decode cX5_nextToken 194 = .ok (.getfield 77, 3) := by decide +kernel
theorem dX5_nextToken_197 : decode cX5_nextToken 197 = .ok (.invokevirtual 84, 3) := by decide +kernel
theorem dX5_nextToken_200 : decode cX5_nextToken 200 = .ok (.ireturn, 1) := by decide +kernel
theorem dX5_nextToken_201 : decode cX5_nextToken 201 = .ok (.iconst 1, 1) := by decide +kernel
theorem dX5_nextToken_202 : decode cX5_nextToken 202 = .ok (.ireturn, 1) := by decide +kernel
theorem dX5_isName_0 : decode cX5_isName 0 = .ok (.aload_n 0, 1) := by decide +kernel
theorem dX5_isName_1 : decode cX5_isName 1 = .ok (.getfield 39, 3) := by decide +kernel
theorem dX5_isName_4 : decode cX5_isName 4 = .ok (.iconst 1, 1) := by decide +kernel
theorem dX5_isName_5 : decode cX5_isName 5 = .ok (.if_icmp .ne 26, 3) := by decide +kernel
theorem dX5_isName_8 : decode cX5_isName 8 = .ok (.aload_n 0, 1) := by decide +kernel
theorem dX5_isName_9 : decode cX5_isName 9 = .ok (.getfield 12, 3) := by decide +kernel
theorem dX5_isName_12 : decode cX5_isName 12 = .ok (.aload_n 0, 1) := by decide +kernel
theorem dX5_isName_13 : decode cX5_isName 13 = .ok (.getfield 77, 3) := by decide +kernel
theorem dX5_isName_16 : decode cX5_isName 16 = .ok (.aload_n 0, 1) := by decide +kernel
theorem dX5_isName_17 : decode cX5_isName 17 = .ok (.getfield 57, 3) := by decide +kernel
theorem dX5_isName_20 : decode cX5_isName 20 = .ok (.aload_n 1, 1) := by decide +kernel
theorem dX5_isName_21 : decode cX5_isName 21 = .ok (.invokevirtual 88, 3) := by decide +kernel
theorem dX5_isName_24 : decode cX5_isName 24 = .ok (.ifCond .eq 7, 3) := by decide +kernel
theorem dX5_isName_27 : decode cX5_isName 27 = .ok (.iconst 1, 1) := by decide +kernel
theorem dX5_isName_28 : decode cX5_isName 28 = .ok (.goto 4, 3) := by decide +kernel
theorem dX5_isName_31 : decode cX5_isName 31 = .ok (.iconst 0, 1) := by decide +kernel
theorem dX5_isName_32 : decode cX5_isName 32 = .ok (.ireturn, 1) := by decide +kernel
theorem dX5_readLine_0 : decode cX5_readLine 0 = .ok (.aload_n 0, 1) := by decide +kernel
theorem dX5_readLine_1 : decode cX5_readLine 1 = .ok (.ldc 92, 2) := by decide +kernel
theorem dX5_readLine_3 : decode cX5_readLine 3 = .ok (.invokevirtual 94, 3) := by decide +kernel
theorem dX5_readLine_6 : decode cX5_readLine 6 = .ok (.ifCond .eq 8, 3) := by decide +kernel
theorem dX5_readLine_9 : decode cX5_readLine 9 = .ok (.aload_n 0, 1) := by decide +kernel
theorem dX5_readLine_10 : decode cX5_readLine 10 = .ok (.invokevirtual 98, 3) := by decide +kernel
theorem dX5_readLine_13 : decode cX5_readLine 13 = .ok (.ireturn, 1) := by decide +kernel
theorem dX5_readLine_14 : decode cX5_readLine 14 = .ok (.aload_n 0, 1) := by decide +kernel
theorem dX5_readLine_15 : decode cX5_readLine 15 = .ok (.ldc 101, 2) := by decide +kernel
theorem dX5_readLine_17 : decode cX5_readLine 17 = .ok (.invokevirtual 94, 3) := by decide +kernel
theorem dX5_readLine_20 : decode cX5_readLine 20 = .ok (.ifCond .eq 8, 3) := by decide +kernel
theorem dX5_readLine_23 : decode cX5_readLine 23 = .ok (.aload_n 0, 1) := by decide +kernel
theorem dX5_readLine_24 : decode cX5_readLine 24 = .ok (.invokevirtual 103, 3) := by decide +kernel
theorem dX5_readLine_27 : decode cX5_readLine 27 = .ok (.ireturn, 1) := by decide +kernel
theorem dX5_readLine_28 : decode cX5_readLine 28 = .ok (.aload_n 0, 1) := by decide +kernel
theorem dX5_readLine_29 : decode cX5_readLine 29 = .ok (.ldc 106, 2) := by decide +kernel
theorem dX5_readLine_31 : decode cX5_readLine 31 = .ok (.invokevirtual 94, 3) := by decide +kernel
theorem dX5_readLine_34 : decode cX5_readLine 34 = .ok (.ifCond .eq 8, 3) := by decide +kernel
theorem dX5_readLine_37 : decode cX5_readLine 37 = .ok (.aload_n 0, 1) := by decide +kernel
theorem dX5_readLine_38 : decode cX5_readLine 38 = .ok (.invokevirtual 108, 3) := by decide +kernel
theorem dX5_readLine_41 : decode cX5_readLine 41 = .ok (.ireturn, 1) := by decide +kernel
theorem dX5_readLine_42 : decode cX5_readLine 42 = .ok (.aload_n 0, 1) := by decide +kernel
theorem dX5_readLine_43 : decode cX5_readLine 43 = .ok (.ldc 111, 2) := by decide +kernel
theorem dX5_readLine_45 : decode cX5_readLine 45 = .ok (.invokevirtual 94, 3) := by decide +kernel
theorem dX5_readLine_48 : decode cX5_readLine 48 = .ok (.ifCond .eq 8, 3) := by decide +kernel
theorem dX5_readLine_51 : decode cX5_readLine 51 = .ok (.aload_n 0, 1) := by decide +kernel
theorem dX5_readLine_52 : decode cX5_readLine 52 = .ok (.invokevirtual 113, 3) := by decide +kernel
theorem dX5_readLine_55 : decode cX5_readLine 55 = .ok (.ireturn, 1) := by decide +kernel
theorem dX5_readLine_56 : decode cX5_readLine 56 = .ok (.aload_n 0, 1) := by decide +kernel
theorem dX5_readLine_57 : decode cX5_readLine 57 = .ok (.iconst 2, 1) := by decide +kernel
theorem dX5_readLine_58 : decode cX5_readLine 58 = .ok (.aload_n 0, 1) := by decide +kernel
theorem dX5_readLine_59 : decode cX5_readLine 59 = .ok (.getfield 77, 3) := by decide +kernel
theorem dX5_readLine_62 : decode cX5_readLine 62 = .ok (.invokevirtual 84, 3) := by decide +kernel
theorem dX5_readLine_65 : decode cX5_readLine 65 = .ok (.ireturn, 1) := by decide +kernel
theorem dX5_readStart_0 : decode cX5_readStart 0 = .ok (.aload_n 0, 1) := by decide +kernel
theorem dX5_readStart_1 : decode cX5_readStart 1 = .ok (.getfield 60, 3) := by decide +kernel
theorem dX5_readStart_4 : decode cX5_readStart 4 = .ok (.ifCond .eq 13, 3) := by decide +kernel
theorem dX5_readStart_7 : decode cX5_readStart 7 = .ok (.aload_n 0, 1) := by decide +kernel
theorem dX5_readStart_8 : decode cX5_readStart 8 = .ok (.iconst 4, 1) := by decide +kernel
theorem dX5_readStart_9 : decode cX5_readStart 9 = .ok (.aload_n 0, 1) := by decide +kernel
theorem dX5_readStart_10 : decode cX5_readStart 10 = .ok (.getfield 77, 3) := by decide +kernel
theorem dX5_readStart_13 : decode cX5_readStart 13 = .ok (.invokevirtual 84, 3) := by decide +kernel
theorem dX5_readStart_16 : decode cX5_readStart 16 = .ok (.ireturn, 1) := by decide +kernel
theorem dX5_readStart_17 : decode cX5_readStart 17 = .ok (.aload_n 0, 1) := by decide +kernel
theorem dX5_readStart_18 : decode cX5_readStart 18 = .ok (.iconst 1, 1) := by decide +kernel
theorem dX5_readStart_19 : decode cX5_readStart 19 = .ok (.putfield 60, 3) := by decide +kernel
theorem dX5_readStart_22 : decode cX5_readStart 22 = .ok (.aload_n 0, 1) := by decide +kernel
theorem dX5_readStart_23 : decode cX5_readStart 23 = .ok (.iconst 1, 1) := by decide +kernel
theorem dX5_readStart_24 : decode cX5_readStart 24 = .ok (.bipush 9, 2) := by decide +kernel
theorem dX5_readStart_26 : decode cX5_readStart 26 = .ok (.invokevirtual 116, 3) := by decide +kernel
theorem dX5_readStart_29 : decode cX5_readStart 29 = .ok (.ifCond .ne 5, 3) := by decide +kernel
theorem dX5_readStart_32 : decode cX5_readStart 32 = .ok (.iconst 0, 1) := by decide +kernel
theorem dX5_readStart_33 : decode cX5_readStart 33 = .ok (.ireturn, 1) := by decide +kernel
theorem dX5_readStart_34 : decode cX5_readStart 34 = .ok (.aload_n 0, 1) := by decide +kernel
theorem dX5_readStart_35 : decode cX5_readStart 35 = .ok (.getfield 21, 3) := by decide +kernel
theorem dX5_readStart_38 : decode cX5_readStart 38 = .ok (.aload_n 0, 1) := by decide +kernel
theorem dX5_readStart_39 : decode cX5_readStart 39 = .ok (.invokevirtual 119, 3) := by decide +kernel
theorem dX5_readStart_42 : decode cX5_readStart 42 = .ok (.putfield 123, 3) := by decide +kernel
theorem dX5_readStart_45 : decode cX5_readStart 45 = .ok (.aload_n 0, 1) := by decide +kernel
theorem dX5_readStart_46 : decode cX5_readStart 46 = .ok (.invokevirtual 126, 3) := by decide +kernel
theorem dX5_readStart_49 : decode cX5_readStart 49 = .ok (.ireturn, 1) := by decide +kernel
theorem dX5_readStretch_0 : decode cX5_readStretch 0 = .ok (.aload_n 0, 1) := by decide +kernel
theorem dX5_readStretch_1 : decode cX5_readStretch 1 = .ok (.getfield 21, 3) := by decide +kernel
theorem dX5_readStretch_4 : decode cX5_readStretch 4 = .ok (.getfield 129, 3) := by decide +kernel
theorem dX5_readStretch_7 : decode cX5_readStretch 7 = .ok (.bipush 10, 2) := by decide +kernel
theorem dX5_readStretch_9 : decode cX5_readStretch 9 = .ok (.if_icmp .lt 13, 3) := by decide +kernel
theorem dX5_readStretch_12 : decode cX5_readStretch 12 = .ok (.aload_n 0, 1) := by decide +kernel
theorem dX5_readStretch_13 : decode cX5_readStretch 13 = .ok (.iconst 5, 1) := by decide +kernel
theorem dX5_readStretch_14 : decode cX5_readStretch 14 = .ok (.aload_n 0, 1) := by decide +kernel
theorem dX5_readStretch_15 : decode cX5_readStretch 15 = .ok (.getfield 77, 3) := by decide +kernel
theorem dX5_readStretch_18 : decode cX5_readStretch 18 = .ok (.invokevirtual 84, 3) := by decide +kernel
theorem dX5_readStretch_21 : decode cX5_readStretch 21 = .ok (.ireturn, 1) := by decide +kernel
theorem dX5_readStretch_22 : decode cX5_readStretch 22 = .ok (.aload_n 0, 1) := by decide +kernel
theorem dX5_readStretch_23 : decode cX5_readStretch 23 = .ok (.iconst 0, 1) := by decide +kernel
theorem dX5_readStretch_24 : decode cX5_readStretch 24 = .ok (.bipush 9, 2) := by decide +kernel
theorem dX5_readStretch_26 : decode cX5_readStretch 26 = .ok (.invokevirtual 116, 3) := by decide +kernel
theorem dX5_readStretch_29 : decode cX5_readStretch 29 = .ok (.ifCond .ne 5, 3) := by decide +kernel
theorem dX5_readStretch_32 : decode cX5_readStretch 32 = .ok (.iconst 0, 1) := by decide +kernel
theorem dX5_readStretch_33 : decode cX5_readStretch 33 = .ok (.ireturn, 1) := by decide +kernel
theorem dX5_readStretch_34 : decode cX5_readStretch 34 = .ok (.aload_n 0, 1) := by decide +kernel
theorem dX5_readStretch_35 : decode cX5_readStretch 35 = .ok (.invokevirtual 119, 3) := by decide +kernel
theorem dX5_readStretch_38 : decode cX5_readStretch 38 = .ok (.istore_n 1, 1) := by decide +kernel
theorem dX5_readStretch_39 : decode cX5_readStretch 39 = .ok (.aload_n 0, 1) := by decide +kernel
theorem dX5_readStretch_40 : decode cX5_readStretch 40 = .ok (.iconst 0, 1) := by decide +kernel
theorem dX5_readStretch_41 : decode cX5_readStretch 41 = .ok (.bipush 9, 2) := by decide +kernel
theorem dX5_readStretch_43 : decode cX5_readStretch 43 = .ok (.invokevirtual 116, 3) := by decide +kernel
theorem dX5_readStretch_46 : decode cX5_readStretch 46 = .ok (.ifCond .ne 5, 3) := by decide +kernel
theorem dX5_readStretch_49 : decode cX5_readStretch 49 = .ok (.iconst 0, 1) := by decide +kernel
theorem dX5_readStretch_50 : decode cX5_readStretch 50 = .ok (.ireturn, 1) := by decide +kernel
theorem dX5_readStretch_51 : decode cX5_readStretch 51 = .ok (.aload_n 0, 1) := by decide +kernel
theorem dX5_readStretch_52 : decode cX5_readStretch 52 = .ok (.getfield 21, 3) := by decide +kernel
theorem dX5_readStretch_55 : decode cX5_readStretch 55 = .ok (.iload_n 1, 1) := by decide +kernel
theorem dX5_readStretch_56 : decode cX5_readStretch 56 = .ok (.aload_n 0, 1) := by decide +kernel
theorem dX5_readStretch_57 : decode cX5_readStretch 57 = .ok (.invokevirtual 119, 3) := by decide +kernel
theorem dX5_readStretch_60 : decode cX5_readStretch 60 = .ok (.invokevirtual 132, 3) := by decide +kernel
theorem dX5_readStretch_63 : decode cX5_readStretch 63 = .ok (.aload_n 0, 1) := by decide +kernel
theorem dX5_readStretch_64 : decode cX5_readStretch 64 = .ok (.invokevirtual 126, 3) := by decide +kernel
theorem dX5_readStretch_67 : decode cX5_readStretch 67 = .ok (.ireturn, 1) := by decide +kernel
theorem dX5_readBearer_0 : decode cX5_readBearer 0 = .ok (.aload_n 0, 1) := by decide +kernel
theorem dX5_readBearer_1 : decode cX5_readBearer 1 = .ok (.getfield 21, 3) := by decide +kernel
theorem dX5_readBearer_4 : decode cX5_readBearer 4 = .ok (.getfield 136, 3) := by decide +kernel
theorem dX5_readBearer_7 : decode cX5_readBearer 7 = .ok (.bipush 6, 2) := by decide +kernel
theorem dX5_readBearer_9 : decode cX5_readBearer 9 = .ok (.if_icmp .lt 13, 3) := by decide +kernel
theorem dX5_readBearer_12 : decode cX5_readBearer 12 = .ok (.aload_n 0, 1) := by decide +kernel
theorem dX5_readBearer_13 : decode cX5_readBearer 13 = .ok (.iconst 5, 1) := by decide +kernel
theorem dX5_readBearer_14 : decode cX5_readBearer 14 = .ok (.aload_n 0, 1) := by decide +kernel
theorem dX5_readBearer_15 : decode cX5_readBearer 15 = .ok (.getfield 77, 3) := by decide +kernel
theorem dX5_readBearer_18 : decode cX5_readBearer 18 = .ok (.invokevirtual 84, 3) := by decide +kernel
theorem dX5_readBearer_21 : decode cX5_readBearer 21 = .ok (.ireturn, 1) := by decide +kernel
theorem dX5_readBearer_22 : decode cX5_readBearer 22 = .ok (.aload_n 0, 1) := by decide +kernel
theorem dX5_readBearer_23 : decode cX5_readBearer 23 = .ok (.invokevirtual 28, 3) := by decide +kernel
theorem dX5_readBearer_26 : decode cX5_readBearer 26 = .ok (.ifCond .ne 5, 3) := by decide +kernel
theorem dX5_readBearer_29 : decode cX5_readBearer 29 = .ok (.iconst 0, 1) := by decide +kernel
theorem dX5_readBearer_30 : decode cX5_readBearer 30 = .ok (.ireturn, 1) := by decide +kernel
theorem dX5_readBearer_31 : decode cX5_readBearer 31 = .ok (.aload_n 0, 1) := by decide +kernel
theorem dX5_readBearer_32 : decode cX5_readBearer 32 = .ok (.invokevirtual 139, 3) := by decide +kernel
theorem dX5_readBearer_35 : decode cX5_readBearer 35 = .ok (.istore_n 1, 1) := by decide +kernel
theorem dX5_readBearer_36 : decode cX5_readBearer 36 = .ok (.iload_n 1, 1) := by decide +kernel
theorem dX5_readBearer_37 : decode cX5_readBearer 37 = .ok (.bipush (-4), 2) := by decide +kernel
theorem dX5_readBearer_39 : decode cX5_readBearer 39 = .ok (.if_icmp .ne 13, 3) := by decide +kernel
theorem dX5_readBearer_42 : decode cX5_readBearer 42 = .ok (.aload_n 0, 1) := by decide +kernel
theorem dX5_readBearer_43 : decode cX5_readBearer 43 = .ok (.iconst 2, 1) := by decide +kernel
theorem dX5_readBearer_44 : decode cX5_readBearer 44 = .ok (.aload_n 0, 1) := by decide +kernel
theorem dX5_readBearer_45 : decode cX5_readBearer 45 = .ok (.getfield 77, 3) := by decide +kernel
theorem dX5_readBearer_48 : decode cX5_readBearer 48 = .ok (.invokevirtual 84, 3) := by decide +kernel
theorem dX5_readBearer_51 : decode cX5_readBearer 51 = .ok (.ireturn, 1) := by decide +kernel
theorem dX5_readBearer_52 : decode cX5_readBearer 52 = .ok (.aload_n 0, 1) := by decide +kernel
theorem dX5_readBearer_53 : decode cX5_readBearer 53 = .ok (.iconst 0, 1) := by decide +kernel
theorem dX5_readBearer_54 : decode cX5_readBearer 54 = .ok (.bipush 9, 2) := by decide +kernel
theorem dX5_readBearer_56 : decode cX5_readBearer 56 = .ok (.invokevirtual 116, 3) := by decide +kernel
theorem dX5_readBearer_59 : decode cX5_readBearer 59 = .ok (.ifCond .ne 5, 3) := by decide +kernel
theorem dX5_readBearer_62 : decode cX5_readBearer 62 = .ok (.iconst 0, 1) := by decide +kernel
theorem dX5_readBearer_63 : decode cX5_readBearer 63 = .ok (.ireturn, 1) := by decide +kernel
theorem dX5_readBearer_64 : decode cX5_readBearer 64 = .ok (.aload_n 0, 1) := by decide +kernel
theorem dX5_readBearer_65 : decode cX5_readBearer 65 = .ok (.invokevirtual 119, 3) := by decide +kernel
theorem dX5_readBearer_68 : decode cX5_readBearer 68 = .ok (.istore_n 2, 1) := by decide +kernel
theorem dX5_readBearer_69 : decode cX5_readBearer 69 = .ok (.aload_n 0, 1) := by decide +kernel
theorem dX5_readBearer_70 : decode cX5_readBearer 70 = .ok (.iconst 0, 1) := by decide +kernel
theorem dX5_readBearer_71 : decode cX5_readBearer 71 = .ok (.bipush 9, 2) := by decide +kernel
theorem dX5_readBearer_73 : decode cX5_readBearer 73 = .ok (.invokevirtual 116, 3) := by decide +kernel
theorem dX5_readBearer_76 : decode cX5_readBearer 76 = .ok (.ifCond .ne 5, 3) := by decide +kernel
theorem dX5_readBearer_79 : decode cX5_readBearer 79 = .ok (.iconst 0, 1) := by decide +kernel
theorem dX5_readBearer_80 : decode cX5_readBearer 80 = .ok (.ireturn, 1) := by decide +kernel
theorem dX5_readBearer_81 : decode cX5_readBearer 81 = .ok (.aload_n 0, 1) := by decide +kernel
theorem dX5_readBearer_82 : decode cX5_readBearer 82 = .ok (.getfield 21, 3) := by decide +kernel
theorem dX5_readBearer_85 : decode cX5_readBearer 85 = .ok (.iload_n 1, 1) := by decide +kernel
theorem dX5_readBearer_86 : decode cX5_readBearer 86 = .ok (.iload_n 2, 1) := by decide +kernel
theorem dX5_readBearer_87 : decode cX5_readBearer 87 = .ok (.aload_n 0, 1) := by decide +kernel
theorem dX5_readBearer_88 : decode cX5_readBearer 88 = .ok (.invokevirtual 119, 3) := by decide +kernel
theorem dX5_readBearer_91 : decode cX5_readBearer 91 = .ok (.invokevirtual 142, 3) := by decide +kernel
theorem dX5_readBearer_94 : decode cX5_readBearer 94 = .ok (.aload_n 0, 1) := by decide +kernel
theorem dX5_readBearer_95 : decode cX5_readBearer 95 = .ok (.invokevirtual 126, 3) := by decide +kernel
theorem dX5_readBearer_98 : decode cX5_readBearer 98 = .ok (.ireturn, 1) := by decide +kernel
theorem dX5_readCarry_0 : decode cX5_readCarry 0 = .ok (.aload_n 0, 1) := by decide +kernel
theorem dX5_readCarry_1 : decode cX5_readCarry 1 = .ok (.iconst 0, 1) := by decide +kernel
theorem dX5_readCarry_2 : decode cX5_readCarry 2 = .ok (.bipush 9, 2) := by decide +kernel
theorem dX5_readCarry_4 : decode cX5_readCarry 4 = .ok (.invokevirtual 116, 3) := by decide +kernel
theorem dX5_readCarry_7 : decode cX5_readCarry 7 = .ok (.ifCond .ne 5, 3) := by decide +kernel
theorem dX5_readCarry_10 : decode cX5_readCarry 10 = .ok (.iconst 0, 1) := by decide +kernel
theorem dX5_readCarry_11 : decode cX5_readCarry 11 = .ok (.ireturn, 1) := by decide +kernel
theorem dX5_readCarry_12 : decode cX5_readCarry 12 = .ok (.aload_n 0, 1) := by decide +kernel
theorem dX5_readCarry_13 : decode cX5_readCarry 13 = .ok (.invokevirtual 119, 3) := by decide +kernel
theorem dX5_readCarry_16 : decode cX5_readCarry 16 = .ok (.istore_n 1, 1) := by decide +kernel
theorem dX5_readCarry_17 : decode cX5_readCarry 17 = .ok (.aload_n 0, 1) := by decide +kernel
theorem dX5_readCarry_18 : decode cX5_readCarry 18 = .ok (.getfield 64, 3) := by decide +kernel
theorem dX5_readCarry_21 : decode cX5_readCarry 21 = .ok (.iload_n 1, 1) := by decide +kernel
theorem dX5_readCarry_22 : decode cX5_readCarry 22 = .ok (.ishr, 1) := by decide +kernel
theorem dX5_readCarry_23 : decode cX5_readCarry 23 = .ok (.iconst 1, 1) := by decide +kernel
theorem dX5_readCarry_24 : decode cX5_readCarry 24 = .ok (.iand, 1) := by decide +kernel
theorem dX5_readCarry_25 : decode cX5_readCarry 25 = .ok (.iconst 1, 1) := by decide +kernel
theorem dX5_readCarry_26 : decode cX5_readCarry 26 = .ok (.if_icmp .ne 13, 3) := by decide +kernel
theorem dX5_readCarry_29 : decode cX5_readCarry 29 = .ok (.aload_n 0, 1) := by decide +kernel
theorem dX5_readCarry_30 : decode cX5_readCarry 30 = .ok (.iconst 4, 1) := by decide +kernel
theorem dX5_readCarry_31 : decode cX5_readCarry 31 = .ok (.aload_n 0, 1) := by decide +kernel
theorem dX5_readCarry_32 : decode cX5_readCarry 32 = .ok (.getfield 77, 3) := by decide +kernel
theorem dX5_readCarry_35 : decode cX5_readCarry 35 = .ok (.invokevirtual 84, 3) := by decide +kernel
theorem dX5_readCarry_38 : decode cX5_readCarry 38 = .ok (.ireturn, 1) := by decide +kernel
theorem dX5_readCarry_39 : decode cX5_readCarry 39 = .ok (.aload_n 0, 1) := by decide +kernel
theorem dX5_readCarry_40 : decode cX5_readCarry 40 = .ok (.dup, 1) := by decide +kernel
theorem dX5_readCarry_41 : decode cX5_readCarry 41 = .ok (.getfield 64, 3) := by decide +kernel
theorem dX5_readCarry_44 : decode cX5_readCarry 44 = .ok (.iconst 1, 1) := by decide +kernel
theorem dX5_readCarry_45 : decode cX5_readCarry 45 = .ok (.iload_n 1, 1) := by decide +kernel
theorem dX5_readCarry_46 : decode cX5_readCarry 46 = .ok (.ishl, 1) := by decide +kernel
theorem dX5_readCarry_47 : decode cX5_readCarry 47 = .ok (.ior, 1) := by decide +kernel
theorem dX5_readCarry_48 : decode cX5_readCarry 48 = .ok (.putfield 64, 3) := by decide +kernel
theorem dX5_readCarry_51 : decode cX5_readCarry 51 = .ok (.aload_n 0, 1) := by decide +kernel
theorem dX5_readCarry_52 : decode cX5_readCarry 52 = .ok (.iconst 0, 1) := by decide +kernel
theorem dX5_readCarry_53 : decode cX5_readCarry 53 = .ok (.iconst 5, 1) := by decide +kernel
theorem dX5_readCarry_54 : decode cX5_readCarry 54 = .ok (.invokevirtual 116, 3) := by decide +kernel
theorem dX5_readCarry_57 : decode cX5_readCarry 57 = .ok (.ifCond .ne 5, 3) := by decide +kernel
theorem dX5_readCarry_60 : decode cX5_readCarry 60 = .ok (.iconst 0, 1) := by decide +kernel
theorem dX5_readCarry_61 : decode cX5_readCarry 61 = .ok (.ireturn, 1) := by decide +kernel
theorem dX5_readCarry_62 : decode cX5_readCarry 62 = .ok (.aload_n 0, 1) := by decide +kernel
theorem dX5_readCarry_63 : decode cX5_readCarry 63 = .ok (.invokevirtual 119, 3) := by decide +kernel
theorem dX5_readCarry_66 : decode cX5_readCarry 66 = .ok (.istore_n 2, 1) := by decide +kernel
theorem dX5_readCarry_67 : decode cX5_readCarry 67 = .ok (.iload_n 1, 1) := by decide +kernel
theorem dX5_readCarry_68 : decode cX5_readCarry 68 = .ok (.ifCond .lt 19, 3) := by decide +kernel
theorem dX5_readCarry_71 : decode cX5_readCarry 71 = .ok (.iload_n 1, 1) := by decide +kernel
theorem dX5_readCarry_72 : decode cX5_readCarry 72 = .ok (.bipush 10, 2) := by decide +kernel
theorem dX5_readCarry_74 : decode cX5_readCarry 74 = .ok (.if_icmp .ge 13, 3) := by decide +kernel
theorem dX5_readCarry_77 : decode cX5_readCarry 77 = .ok (.aload_n 0, 1) := by decide +kernel
theorem dX5_readCarry_78 : decode cX5_readCarry 78 = .ok (.getfield 21, 3) := by decide +kernel
theorem dX5_readCarry_81 : decode cX5_readCarry 81 = .ok (.getfield 146, 3) := by decide +kernel
theorem dX5_readCarry_84 : decode cX5_readCarry 84 = .ok (.iload_n 1, 1) := by decide +kernel
theorem dX5_readCarry_85 : decode cX5_readCarry 85 = .ok (.iload_n 2, 1) := by decide +kernel
theorem dX5_readCarry_86 : decode cX5_readCarry 86 = .ok (.iastore, 1) := by decide +kernel
theorem dX5_readCarry_87 : decode cX5_readCarry 87 = .ok (.aload_n 0, 1) := by decide +kernel
theorem dX5_readCarry_88 : decode cX5_readCarry 88 = .ok (.aload_n 0, 1) := by decide +kernel
theorem dX5_readCarry_89 : decode cX5_readCarry 89 = .ok (.getfield 67, 3) := by decide +kernel
theorem dX5_readCarry_92 : decode cX5_readCarry 92 = .ok (.iload_n 1, 1) := by decide +kernel
theorem dX5_readCarry_93 : decode cX5_readCarry 93 = .ok (.invokestatic 150, 3) := by decide +kernel
theorem dX5_readCarry_96 : decode cX5_readCarry 96 = .ok (.putfield 67, 3) := by decide +kernel
theorem dX5_readCarry_99 : decode cX5_readCarry 99 = .ok (.aload_n 0, 1) := by decide +kernel
theorem dX5_readCarry_100 : decode cX5_readCarry 100 = .ok (.aload_n 0, 1) := by decide +kernel
theorem dX5_readCarry_101 : decode cX5_readCarry 101 = .ok (.getfield 70, 3) := by decide +kernel
theorem dX5_readCarry_104 : decode cX5_readCarry 104 = .ok (.iload_n 2, 1) := by decide +kernel
theorem dX5_readCarry_105 : decode cX5_readCarry 105 = .ok (.invokestatic 150, 3) := by decide +kernel
theorem dX5_readCarry_108 : decode cX5_readCarry 108 = .ok (.putfield 70, 3) := by decide +kernel
theorem dX5_readCarry_111 : decode cX5_readCarry 111 = .ok (.aload_n 0, 1) := by decide +kernel
theorem dX5_readCarry_112 : decode cX5_readCarry 112 = .ok (.invokevirtual 126, 3) := by decide +kernel
theorem dX5_readCarry_115 : decode cX5_readCarry 115 = .ok (.ireturn, 1) := by decide +kernel
theorem dX5_kind_0 : decode cX5_kind 0 = .ok (.aload_n 0, 1) := by decide +kernel
theorem dX5_kind_1 : decode cX5_kind 1 = .ok (.ldc 156, 2) := by decide +kernel
theorem dX5_kind_3 : decode cX5_kind 3 = .ok (.invokevirtual 94, 3) := by decide +kernel
theorem dX5_kind_6 : decode cX5_kind 6 = .ok (.ifCond .eq 5, 3) := by decide +kernel
theorem dX5_kind_9 : decode cX5_kind 9 = .ok (.iconst 0, 1) := by decide +kernel
theorem dX5_kind_10 : decode cX5_kind 10 = .ok (.ireturn, 1) := by decide +kernel
theorem dX5_kind_11 : decode cX5_kind 11 = .ok (.aload_n 0, 1) := by decide +kernel
theorem dX5_kind_12 : decode cX5_kind 12 = .ok (.ldc 158, 2) := by decide +kernel
theorem dX5_kind_14 : decode cX5_kind 14 = .ok (.invokevirtual 94, 3) := by decide +kernel
theorem dX5_kind_17 : decode cX5_kind 17 = .ok (.ifCond .eq 5, 3) := by decide +kernel
theorem dX5_kind_20 : decode cX5_kind 20 = .ok (.iconst 1, 1) := by decide +kernel
theorem dX5_kind_21 : decode cX5_kind 21 = .ok (.ireturn, 1) := by decide +kernel
theorem dX5_kind_22 : decode cX5_kind 22 = .ok (.aload_n 0, 1) := by decide +kernel
theorem dX5_kind_23 : decode cX5_kind 23 = .ok (.ldc 160, 2) := by decide +kernel
theorem dX5_kind_25 : decode cX5_kind 25 = .ok (.invokevirtual 94, 3) := by decide +kernel
theorem dX5_kind_28 : decode cX5_kind 28 = .ok (.ifCond .eq 5, 3) := by decide +kernel
theorem dX5_kind_31 : decode cX5_kind 31 = .ok (.iconst 2, 1) := by decide +kernel
theorem dX5_kind_32 : decode cX5_kind 32 = .ok (.ireturn, 1) := by decide +kernel
theorem dX5_kind_33 : decode cX5_kind 33 = .ok (.aload_n 0, 1) := by decide +kernel
theorem dX5_kind_34 : decode cX5_kind 34 = .ok (.ldc 162, 2) := by decide +kernel
theorem dX5_kind_36 : decode cX5_kind 36 = .ok (.invokevirtual 94, 3) := by decide +kernel
theorem dX5_kind_39 : decode cX5_kind 39 = .ok (.ifCond .eq 5, 3) := by decide +kernel
theorem dX5_kind_42 : decode cX5_kind 42 = .ok (.iconst 3, 1) := by decide +kernel
theorem dX5_kind_43 : decode cX5_kind 43 = .ok (.ireturn, 1) := by decide +kernel
theorem dX5_kind_44 : decode cX5_kind 44 = .ok (.aload_n 0, 1) := by decide +kernel
theorem dX5_kind_45 : decode cX5_kind 45 = .ok (.ldc 164, 2) := by decide +kernel
theorem dX5_kind_47 : decode cX5_kind 47 = .ok (.invokevirtual 94, 3) := by decide +kernel
theorem dX5_kind_50 : decode cX5_kind 50 = .ok (.ifCond .eq 5, 3) := by decide +kernel
theorem dX5_kind_53 : decode cX5_kind 53 = .ok (.iconst 4, 1) := by decide +kernel
theorem dX5_kind_54 : decode cX5_kind 54 = .ok (.ireturn, 1) := by decide +kernel
theorem dX5_kind_55 : decode cX5_kind 55 = .ok (.aload_n 0, 1) := by decide +kernel
theorem dX5_kind_56 : decode cX5_kind 56 = .ok (.ldc 166, 2) := by decide +kernel
theorem dX5_kind_58 : decode cX5_kind 58 = .ok (.invokevirtual 94, 3) := by decide +kernel
theorem dX5_kind_61 : decode cX5_kind 61 = .ok (.ifCond .eq 7, 3) := by decide +kernel
theorem dX5_kind_64 : decode cX5_kind 64 = .ok (.iconst 5, 1) := by decide +kernel
theorem dX5_kind_65 : decode cX5_kind 65 = .ok (.goto 5, 3) := by decide +kernel
theorem dX5_kind_68 : decode cX5_kind 68 = .ok (.bipush (-4), 2) := by decide +kernel
theorem dX5_kind_70 : decode cX5_kind 70 = .ok (.ireturn, 1) := by decide +kernel
theorem dX5_nextNumber_0 : decode cX5_nextNumber 0 = .ok (.aload_n 0, 1) := by decide +kernel
theorem dX5_nextNumber_1 : decode cX5_nextNumber 1 = .ok (.invokevirtual 28, 3) := by decide +kernel
theorem dX5_nextNumber_4 : decode cX5_nextNumber 4 = .ok (.ifCond .ne 5, 3) := by decide +kernel
theorem dX5_nextNumber_7 : decode cX5_nextNumber 7 = .ok (.iconst 0, 1) := by decide +kernel
theorem dX5_nextNumber_8 : decode cX5_nextNumber 8 = .ok (.ireturn, 1) := by decide +kernel
theorem dX5_nextNumber_9 : decode cX5_nextNumber 9 = .ok (.aload_n 0, 1) := by decide +kernel
theorem dX5_nextNumber_10 : decode cX5_nextNumber 10 = .ok (.getfield 39, 3) := by decide +kernel
theorem dX5_nextNumber_13 : decode cX5_nextNumber 13 = .ok (.iconst 2, 1) := by decide +kernel
theorem dX5_nextNumber_14 : decode cX5_nextNumber 14 = .ok (.if_icmp .eq 13, 3) := by decide +kernel
theorem dX5_nextNumber_17 : decode cX5_nextNumber 17 = .ok (.aload_n 0, 1) := by decide +kernel
theorem dX5_nextNumber_18 : decode cX5_nextNumber 18 = .ok (.iconst 2, 1) := by decide +kernel
theorem dX5_nextNumber_19 : decode cX5_nextNumber 19 = .ok (.aload_n 0, 1) := by decide +kernel
theorem dX5_nextNumber_20 : decode cX5_nextNumber 20 = .ok (.getfield 77, 3) := by decide +kernel
theorem dX5_nextNumber_23 : decode cX5_nextNumber 23 = .ok (.invokevirtual 84, 3) := by decide +kernel
theorem dX5_nextNumber_26 : decode cX5_nextNumber 26 = .ok (.ireturn, 1) := by decide +kernel
theorem dX5_nextNumber_27 : decode cX5_nextNumber 27 = .ok (.aload_n 0, 1) := by decide +kernel
theorem dX5_nextNumber_28 : decode cX5_nextNumber 28 = .ok (.invokevirtual 119, 3) := by decide +kernel
theorem dX5_nextNumber_31 : decode cX5_nextNumber 31 = .ok (.istore_n 3, 1) := by decide +kernel
theorem dX5_nextNumber_32 : decode cX5_nextNumber 32 = .ok (.iload_n 3, 1) := by decide +kernel
theorem dX5_nextNumber_33 : decode cX5_nextNumber 33 = .ok (.iload_n 1, 1) := by decide +kernel
theorem dX5_nextNumber_34 : decode cX5_nextNumber 34 = .ok (.if_icmp .lt 8, 3) := by decide +kernel
theorem dX5_nextNumber_37 : decode cX5_nextNumber 37 = .ok (.iload_n 3, 1) := by decide +kernel
theorem dX5_nextNumber_38 : decode cX5_nextNumber 38 = .ok (.iload_n 2, 1) := by decide +kernel
theorem dX5_nextNumber_39 : decode cX5_nextNumber 39 = .ok (.if_icmp .le 15, 3) := by decide +kernel
theorem dX5_nextNumber_42 : decode cX5_nextNumber 42 = .ok (.aload_n 0, 1) := by decide +kernel
theorem dX5_nextNumber_43 : decode cX5_nextNumber 43 = .ok (.iconst 3, 1) := by decide +kernel
theorem dX5_nextNumber_44 : decode cX5_nextNumber 44 = .ok (.aload_n 0, 1) := by decide +kernel
theorem dX5_nextNumber_45 : decode cX5_nextNumber 45 = .ok (.getfield 77, 3) := by decide +kernel
theorem dX5_nextNumber_48 : decode cX5_nextNumber 48 = .ok (.invokevirtual 84, 3) := by decide +kernel
theorem dX5_nextNumber_51 : decode cX5_nextNumber 51 = .ok (.ifCond .eq 7, 3) := by decide +kernel
theorem dX5_nextNumber_54 : decode cX5_nextNumber 54 = .ok (.iconst 1, 1) := by decide +kernel
theorem dX5_nextNumber_55 : decode cX5_nextNumber 55 = .ok (.goto 4, 3) := by decide +kernel
theorem dX5_nextNumber_58 : decode cX5_nextNumber 58 = .ok (.iconst 0, 1) := by decide +kernel
theorem dX5_nextNumber_59 : decode cX5_nextNumber 59 = .ok (.ireturn, 1) := by decide +kernel
theorem dX5_nextStop_0 : decode cX5_nextStop 0 = .ok (.aload_n 0, 1) := by decide +kernel
theorem dX5_nextStop_1 : decode cX5_nextStop 1 = .ok (.invokevirtual 28, 3) := by decide +kernel
theorem dX5_nextStop_4 : decode cX5_nextStop 4 = .ok (.ifCond .eq 27, 3) := by decide +kernel
theorem dX5_nextStop_7 : decode cX5_nextStop 7 = .ok (.aload_n 0, 1) := by decide +kernel
theorem dX5_nextStop_8 : decode cX5_nextStop 8 = .ok (.getfield 39, 3) := by decide +kernel
theorem dX5_nextStop_11 : decode cX5_nextStop 11 = .ok (.iconst 3, 1) := by decide +kernel
theorem dX5_nextStop_12 : decode cX5_nextStop 12 = .ok (.if_icmp .eq 15, 3) := by decide +kernel
theorem dX5_nextStop_15 : decode cX5_nextStop 15 = .ok (.aload_n 0, 1) := by decide +kernel
theorem dX5_nextStop_16 : decode cX5_nextStop 16 = .ok (.iconst 2, 1) := by decide +kernel
theorem dX5_nextStop_17 : decode cX5_nextStop 17 = .ok (.aload_n 0, 1) := by decide +kernel
theorem dX5_nextStop_18 : decode cX5_nextStop 18 = .ok (.getfield 77, 3) := by decide +kernel
theorem dX5_nextStop_21 : decode cX5_nextStop 21 = .ok (.invokevirtual 84, 3) := by decide +kernel
theorem dX5_nextStop_24 : decode cX5_nextStop 24 = .ok (.ifCond .eq 7, 3) := by decide +kernel
theorem dX5_nextStop_27 : decode cX5_nextStop 27 = .ok (.iconst 1, 1) := by decide +kernel
theorem dX5_nextStop_28 : decode cX5_nextStop 28 = .ok (.goto 4, 3) := by decide +kernel
theorem dX5_nextStop_31 : decode cX5_nextStop 31 = .ok (.iconst 0, 1) := by decide +kernel
theorem dX5_nextStop_32 : decode cX5_nextStop 32 = .ok (.ireturn, 1) := by decide +kernel
theorem dX5_value_0 : decode cX5_value 0 = .ok (.iconst 0, 1) := by decide +kernel
theorem dX5_value_1 : decode cX5_value 1 = .ok (.istore_n 1, 1) := by decide +kernel
theorem dX5_value_2 : decode cX5_value 2 = .ok (.aload_n 0, 1) := by decide +kernel
theorem dX5_value_3 : decode cX5_value 3 = .ok (.getfield 77, 3) := by decide +kernel
theorem dX5_value_6 : decode cX5_value 6 = .ok (.istore_n 2, 1) := by decide +kernel
theorem dX5_value_7 : decode cX5_value 7 = .ok (.iload_n 2, 1) := by decide +kernel
theorem dX5_value_8 : decode cX5_value 8 = .ok (.aload_n 0, 1) := by decide +kernel
theorem dX5_value_9 : decode cX5_value 9 = .ok (.getfield 57, 3) := by decide +kernel
theorem dX5_value_12 : decode cX5_value 12 = .ok (.if_icmp .ge 26, 3) := by decide +kernel
theorem dX5_value_15 : decode cX5_value 15 = .ok (.iload_n 1, 1) := by decide +kernel
theorem dX5_value_16 : decode cX5_value 16 = .ok (.bipush 10, 2) := by decide +kernel
theorem dX5_value_18 : decode cX5_value 18 = .ok (.imul, 1) := by decide +kernel
theorem dX5_value_19 : decode cX5_value 19 = .ok (.aload_n 0, 1) := by decide +kernel
theorem dX5_value_20 : decode cX5_value 20 = .ok (.getfield 12, 3) := by decide +kernel
theorem dX5_value_23 : decode cX5_value 23 = .ok (.iload_n 2, 1) := by decide +kernel
theorem dX5_value_24 : decode cX5_value 24 = .ok (.invokevirtual 80, 3) := by decide +kernel
theorem dX5_value_27 : decode cX5_value 27 = .ok (.iadd, 1) := by decide +kernel
theorem dX5_value_28 : decode cX5_value 28 = .ok (.bipush 48, 2) := by decide +kernel
theorem dX5_value_30 : decode cX5_value 30 = .ok (.isub, 1) := by decide +kernel
theorem dX5_value_31 : decode cX5_value 31 = .ok (.istore_n 1, 1) := by decide +kernel
theorem dX5_value_32 : decode cX5_value 32 = .ok (.iinc 2 1, 3) := by decide +kernel
theorem dX5_value_35 : decode cX5_value 35 = .ok (.goto (-28), 3) := by decide +kernel
theorem dX5_value_38 : decode cX5_value 38 = .ok (.iload_n 1, 1) := by decide +kernel
theorem dX5_value_39 : decode cX5_value 39 = .ok (.ireturn, 1) := by decide +kernel
theorem dX5_lookBehindAll_0 : decode cX5_lookBehindAll 0 = .ok (.aload_n 0, 1) := by decide +kernel
theorem dX5_lookBehindAll_1 : decode cX5_lookBehindAll 1 = .ok (.getfield 67, 3) := by decide +kernel
theorem dX5_lookBehindAll_4 : decode cX5_lookBehindAll 4 = .ok (.aload_n 0, 1) := by decide +kernel
theorem dX5_lookBehindAll_5 : decode cX5_lookBehindAll 5 = .ok (.getfield 21, 3) := by decide +kernel
theorem dX5_lookBehindAll_8 : decode cX5_lookBehindAll 8 = .ok (.getfield 129, 3) := by decide +kernel
theorem dX5_lookBehindAll_11 : decode cX5_lookBehindAll 11 = .ok (.if_icmp .ge 17, 3) := by decide +kernel
theorem dX5_lookBehindAll_14 : decode cX5_lookBehindAll 14 = .ok (.aload_n 0, 1) := by decide +kernel
theorem dX5_lookBehindAll_15 : decode cX5_lookBehindAll 15 = .ok (.getfield 70, 3) := by decide +kernel
theorem dX5_lookBehindAll_18 : decode cX5_lookBehindAll 18 = .ok (.aload_n 0, 1) := by decide +kernel
theorem dX5_lookBehindAll_19 : decode cX5_lookBehindAll 19 = .ok (.getfield 21, 3) := by decide +kernel
theorem dX5_lookBehindAll_22 : decode cX5_lookBehindAll 22 = .ok (.getfield 136, 3) := by decide +kernel
theorem dX5_lookBehindAll_25 : decode cX5_lookBehindAll 25 = .ok (.if_icmp .lt 20, 3) := by decide +kernel
theorem dX5_lookBehindAll_28 : decode cX5_lookBehindAll 28 = .ok (.aload_n 0, 1) := by decide +kernel
theorem dX5_lookBehindAll_29 : decode cX5_lookBehindAll 29 = .ok (.bipush 6, 2) := by decide +kernel
theorem dX5_lookBehindAll_31 : decode cX5_lookBehindAll 31 = .ok (.aload_n 0, 1) := by decide +kernel
theorem dX5_lookBehindAll_32 : decode cX5_lookBehindAll 32 = .ok (.getfield 12, 3) := by decide +kernel
theorem dX5_lookBehindAll_35 : decode cX5_lookBehindAll 35 = .ok (.getfield 32, 3) := by decide +kernel
theorem dX5_lookBehindAll_38 : decode cX5_lookBehindAll 38 = .ok (.invokevirtual 84, 3) := by decide +kernel
theorem dX5_lookBehindAll_41 : decode cX5_lookBehindAll 41 = .ok (.pop, 1) := by decide +kernel
theorem dX5_lookBehindAll_42 : decode cX5_lookBehindAll 42 = .ok (.goto 37, 3) := by decide +kernel
theorem dX5_lookBehindAll_45 : decode cX5_lookBehindAll 45 = .ok (.aload_n 0, 1) := by decide +kernel
theorem dX5_lookBehindAll_46 : decode cX5_lookBehindAll 46 = .ok (.getfield 21, 3) := by decide +kernel
theorem dX5_lookBehindAll_49 : decode cX5_lookBehindAll 49 = .ok (.getfield 129, 3) := by decide +kernel
theorem dX5_lookBehindAll_52 : decode cX5_lookBehindAll 52 = .ok (.ifCond .le 27, 3) := by decide +kernel
theorem dX5_lookBehindAll_55 : decode cX5_lookBehindAll 55 = .ok (.aload_n 0, 1) := by decide +kernel
theorem dX5_lookBehindAll_56 : decode cX5_lookBehindAll 56 = .ok (.getfield 21, 3) := by decide +kernel
theorem dX5_lookBehindAll_59 : decode cX5_lookBehindAll 59 = .ok (.getfield 136, 3) := by decide +kernel
theorem dX5_lookBehindAll_62 : decode cX5_lookBehindAll 62 = .ok (.ifCond .ne 17, 3) := by decide +kernel
theorem dX5_lookBehindAll_65 : decode cX5_lookBehindAll 65 = .ok (.aload_n 0, 1) := by decide +kernel
theorem dX5_lookBehindAll_66 : decode cX5_lookBehindAll 66 = .ok (.bipush 7, 2) := by decide +kernel
theorem dX5_lookBehindAll_68 : decode cX5_lookBehindAll 68 = .ok (.aload_n 0, 1) := by decide +kernel
theorem dX5_lookBehindAll_69 : decode cX5_lookBehindAll 69 = .ok (.getfield 12, 3) := by decide +kernel
theorem dX5_lookBehindAll_72 : decode cX5_lookBehindAll 72 = .ok (.getfield 32, 3) := by decide +kernel
theorem dX5_lookBehindAll_75 : decode cX5_lookBehindAll 75 = .ok (.invokevirtual 84, 3) := by decide +kernel
theorem dX5_lookBehindAll_78 : decode cX5_lookBehindAll 78 = .ok (.pop, 1) := by decide +kernel
theorem dX5_lookBehindAll_79 : decode cX5_lookBehindAll 79 = .ok (.return_, 1) := by decide +kernel
theorem dX6_init_0 : decode cX6_init 0 = .ok (.aload_n 0, 1) := by decide +kernel
theorem dX6_init_1 : decode cX6_init 1 = .ok (.invokespecial 3, 3) := by decide +kernel
theorem dX6_init_4 : decode cX6_init 4 = .ok (.aload_n 0, 1) := by decide +kernel
theorem dX6_init_5 : decode cX6_init 5 = .ok (.iconst 4, 1) := by decide +kernel
theorem dX6_init_6 : decode cX6_init 6 = .ok (.newarray .int, 2) := by decide +kernel
theorem dX6_init_8 : decode cX6_init 8 = .ok (.dup, 1) := by decide +kernel
theorem dX6_init_9 : decode cX6_init 9 = .ok (.iconst 0, 1) := by decide +kernel
theorem dX6_init_10 : decode cX6_init 10 = .ok (.iconst (-1), 1) := by decide +kernel
theorem dX6_init_11 : decode cX6_init 11 = .ok (.iastore, 1) := by decide +kernel
theorem dX6_init_12 : decode cX6_init 12 = .ok (.dup, 1) := by decide +kernel
theorem dX6_init_13 : decode cX6_init 13 = .ok (.iconst 1, 1) := by decide +kernel
theorem dX6_init_14 : decode cX6_init 14 = .ok (.iconst (-1), 1) := by decide +kernel
theorem dX6_init_15 : decode cX6_init 15 = .ok (.iastore, 1) := by decide +kernel
theorem dX6_init_16 : decode cX6_init 16 = .ok (.dup, 1) := by decide +kernel
theorem dX6_init_17 : decode cX6_init 17 = .ok (.iconst 2, 1) := by decide +kernel
theorem dX6_init_18 : decode cX6_init 18 = .ok (.iconst (-1), 1) := by decide +kernel
theorem dX6_init_19 : decode cX6_init 19 = .ok (.iastore, 1) := by decide +kernel
theorem dX6_init_20 : decode cX6_init 20 = .ok (.dup, 1) := by decide +kernel
theorem dX6_init_21 : decode cX6_init 21 = .ok (.iconst 3, 1) := by decide +kernel
theorem dX6_init_22 : decode cX6_init 22 = .ok (.iconst (-1), 1) := by decide +kernel
theorem dX6_init_23 : decode cX6_init 23 = .ok (.iastore, 1) := by decide +kernel
theorem dX6_init_24 : decode cX6_init 24 = .ok (.putfield 11, 3) := by decide +kernel
theorem dX6_init_27 : decode cX6_init 27 = .ok (.aload_n 0, 1) := by decide +kernel
theorem dX6_init_28 : decode cX6_init 28 = .ok (.iconst 4, 1) := by decide +kernel
theorem dX6_init_29 : decode cX6_init 29 = .ok (.newarray .int, 2) := by decide +kernel
theorem dX6_init_31 : decode cX6_init 31 = .ok (.putfield 15, 3) := by decide +kernel
theorem dX6_init_34 : decode cX6_init 34 = .ok (.aload_n 0, 1) := by decide +kernel
theorem dX6_init_35 : decode cX6_init 35 = .ok (.iconst 4, 1) := by decide +kernel
theorem dX6_init_36 : decode cX6_init 36 = .ok (.bipush 40, 2) := by decide +kernel
theorem dX6_init_38 : decode cX6_init 38 = .ok (.multianewarray 18 2, 4) := by decide +kernel
theorem dX6_init_42 : decode cX6_init 42 = .ok (.putfield 20, 3) := by decide +kernel
theorem dX6_init_45 : decode cX6_init 45 = .ok (.aload_n 0, 1) := by decide +kernel
theorem dX6_init_46 : decode cX6_init 46 = .ok (.bipush 20, 2) := by decide +kernel
theorem dX6_init_48 : decode cX6_init 48 = .ok (.newarray .int, 2) := by decide +kernel
theorem dX6_init_50 : decode cX6_init 50 = .ok (.putfield 23, 3) := by decide +kernel
theorem dX6_init_53 : decode cX6_init 53 = .ok (.aload_n 0, 1) := by decide +kernel
theorem dX6_init_54 : decode cX6_init 54 = .ok (.bipush 20, 2) := by decide +kernel
theorem dX6_init_56 : decode cX6_init 56 = .ok (.newarray .int, 2) := by decide +kernel
theorem dX6_init_58 : decode cX6_init 58 = .ok (.putfield 26, 3) := by decide +kernel
theorem dX6_init_61 : decode cX6_init 61 = .ok (.return_, 1) := by decide +kernel
theorem dX6_isSheet_0 : decode cX6_isSheet 0 = .ok (.iload_n 0, 1) := by decide +kernel
theorem dX6_isSheet_1 : decode cX6_isSheet 1 = .ok (.ifCond .lt 12, 3) := by decide +kernel
theorem dX6_isSheet_4 : decode cX6_isSheet 4 = .ok (.iload_n 0, 1) := by decide +kernel
theorem dX6_isSheet_5 : decode cX6_isSheet 5 = .ok (.iconst 4, 1) := by decide +kernel
theorem dX6_isSheet_6 : decode cX6_isSheet 6 = .ok (.if_icmp .ge 7, 3) := by decide +kernel
theorem dX6_isSheet_9 : decode cX6_isSheet 9 = .ok (.iconst 1, 1) := by decide +kernel
theorem dX6_isSheet_10 : decode cX6_isSheet 10 = .ok (.goto 4, 3) := by decide +kernel
theorem dX6_isSheet_13 : decode cX6_isSheet 13 = .ok (.iconst 0, 1) := by decide +kernel
theorem dX6_isSheet_14 : decode cX6_isSheet 14 = .ok (.ireturn, 1) := by decide +kernel
theorem dX6_isLane_0 : decode cX6_isLane 0 = .ok (.iload_n 0, 1) := by decide +kernel
theorem dX6_isLane_1 : decode cX6_isLane 1 = .ok (.ifCond .lt 12, 3) := by decide +kernel
theorem dX6_isLane_4 : decode cX6_isLane 4 = .ok (.iload_n 0, 1) := by decide +kernel
theorem dX6_isLane_5 : decode cX6_isLane 5 = .ok (.iconst 2, 1) := by decide +kernel
theorem dX6_isLane_6 : decode cX6_isLane 6 = .ok (.if_icmp .gt 7, 3) := by decide +kernel
theorem dX6_isLane_9 : decode cX6_isLane 9 = .ok (.iconst 1, 1) := by decide +kernel
theorem dX6_isLane_10 : decode cX6_isLane 10 = .ok (.goto 4, 3) := by decide +kernel
theorem dX6_isLane_13 : decode cX6_isLane 13 = .ok (.iconst 0, 1) := by decide +kernel
theorem dX6_isLane_14 : decode cX6_isLane 14 = .ok (.ireturn, 1) := by decide +kernel
theorem dX6_renew_0 : decode cX6_renew 0 = .ok (.iload_n 1, 1) := by decide +kernel
theorem dX6_renew_1 : decode cX6_renew 1 = .ok (.invokestatic 29, 3) := by decide +kernel
theorem dX6_renew_4 : decode cX6_renew 4 = .ok (.ifCond .eq 13, 3) := by decide +kernel
theorem dX6_renew_7 : decode cX6_renew 7 = .ok (.iload_n 3, 1) := by decide +kernel
theorem dX6_renew_8 : decode cX6_renew 8 = .ok (.ifCond .lt 9, 3) := by decide +kernel
theorem dX6_renew_11 : decode cX6_renew 11 = .ok (.iload_n 3, 1) := by decide +kernel
theorem dX6_renew_12 : decode cX6_renew 12 = .ok (.bipush 40, 2) := by decide +kernel
theorem dX6_renew_14 : decode cX6_renew 14 = .ok (.if_icmp .le 4, 3) := by decide +kernel
theorem dX6_renew_18 : decode cX6_renew 18 = .ok (.aload_n 0, 1) := by decide +kernel
theorem dX6_renew_19 : decode cX6_renew 19 = .ok (.getfield 11, 3) := by decide +kernel
theorem dX6_renew_22 : decode cX6_renew 22 = .ok (.iload_n 1, 1) := by decide +kernel
theorem dX6_renew_23 : decode cX6_renew 23 = .ok (.iload_n 2, 1) := by decide +kernel
theorem dX6_renew_24 : decode cX6_renew 24 = .ok (.iastore, 1) := by decide +kernel
theorem dX6_renew_25 : decode cX6_renew 25 = .ok (.aload_n 0, 1) := by decide +kernel
theorem dX6_renew_26 : decode cX6_renew 26 = .ok (.getfield 15, 3) := by decide +kernel
theorem dX6_renew_29 : decode cX6_renew 29 = .ok (.iload_n 1, 1) := by decide +kernel
theorem dX6_renew_30 : decode cX6_renew 30 = .ok (.iload_n 3, 1) := by decide +kernel
theorem dX6_renew_31 : decode cX6_renew 31 = .ok (.iastore, 1) := by decide +kernel
theorem dX6_renew_32 : decode cX6_renew 32 = .ok (.iconst 0, 1) := by decide +kernel
theorem dX6_renew_33 : decode cX6_renew 33 = .ok (.istore 4, 2) := by decide +kernel
theorem dX6_renew_35 : decode cX6_renew 35 = .ok (.iload 4, 2) := by decide +kernel
theorem dX6_renew_37 : decode cX6_renew 37 = .ok (.iload_n 3, 1) := by decide +kernel
theorem dX6_renew_38 : decode cX6_renew 38 = .ok (.if_icmp .ge 19, 3) := by decide +kernel
theorem dX6_renew_41 : decode cX6_renew 41 = .ok (.aload_n 0, 1) := by decide +kernel
theorem dX6_renew_42 : decode cX6_renew 42 = .ok (.getfield 20, 3) := by decide +kernel
theorem dX6_renew_45 : decode cX6_renew 45 = .ok (.iload_n 1, 1) := by decide +kernel
theorem dX6_renew_46 : decode cX6_renew 46 = .ok (.aaload, 1) := by decide +kernel
theorem dX6_renew_47 : decode cX6_renew 47 = .ok (.iload 4, 2) := by decide +kernel
theorem dX6_renew_49 : decode cX6_renew 49 = .ok (.iconst 0, 1) := by decide +kernel
theorem dX6_renew_50 : decode cX6_renew 50 = .ok (.iastore, 1) := by decide +kernel
theorem dX6_renew_51 : decode cX6_renew 51 = .ok (.iinc 4 1, 3) := by decide +kernel
theorem dX6_renew_54 : decode cX6_renew 54 = .ok (.goto (-19), 3) := by decide +kernel
theorem dX6_renew_57 : decode cX6_renew 57 = .ok (.return_, 1) := by decide +kernel
theorem dX6_sizeOf_0 : decode cX6_sizeOf 0 = .ok (.aload_n 0, 1) := by decide +kernel
theorem dX6_sizeOf_1 : decode cX6_sizeOf 1 = .ok (.getfield 11, 3) := by decide +kernel
theorem dX6_sizeOf_4 : decode cX6_sizeOf 4 = .ok (.iload_n 1, 1) := by decide +kernel
theorem dX6_sizeOf_5 : decode cX6_sizeOf 5 = .ok (.iaload, 1) := by decide +kernel
theorem dX6_sizeOf_6 : decode cX6_sizeOf 6 = .ok (.iconst (-1), 1) := by decide +kernel
theorem dX6_sizeOf_7 : decode cX6_sizeOf 7 = .ok (.if_icmp .ne 8, 3) := by decide +kernel
theorem dX6_sizeOf_10 : decode cX6_sizeOf 10 = .ok (.bipush (-4), 2) := by decide +kernel
theorem dX6_sizeOf_12 : decode cX6_sizeOf 12 = .ok (.goto 9, 3) := by decide +kernel
theorem dX6_sizeOf_15 : decode cX6_sizeOf 15 = .ok (.aload_n 0, 1) := by decide +kernel
theorem dX6_sizeOf_16 : decode cX6_sizeOf 16 = .ok (.getfield 15, 3) := by decide +kernel
theorem dX6_sizeOf_19 : decode cX6_sizeOf 19 = .ok (.iload_n 1, 1) := by decide +kernel
theorem dX6_sizeOf_20 : decode cX6_sizeOf 20 = .ok (.iaload, 1) := by decide +kernel
theorem dX6_sizeOf_21 : decode cX6_sizeOf 21 = .ok (.ireturn, 1) := by decide +kernel
theorem dX6_faultAt_0 : decode cX6_faultAt 0 = .ok (.aload_n 0, 1) := by decide +kernel
theorem dX6_faultAt_1 : decode cX6_faultAt 1 = .ok (.getfield 11, 3) := by decide +kernel
theorem dX6_faultAt_4 : decode cX6_faultAt 4 = .ok (.iload_n 1, 1) := by decide +kernel
theorem dX6_faultAt_5 : decode cX6_faultAt 5 = .ok (.iaload, 1) := by decide +kernel
theorem dX6_faultAt_6 : decode cX6_faultAt 6 = .ok (.iconst (-1), 1) := by decide +kernel
theorem dX6_faultAt_7 : decode cX6_faultAt 7 = .ok (.if_icmp .ne 5, 3) := by decide +kernel
theorem dX6_faultAt_10 : decode cX6_faultAt 10 = .ok (.iconst 1, 1) := by decide +kernel
theorem dX6_faultAt_11 : decode cX6_faultAt 11 = .ok (.ireturn, 1) := by decide +kernel
theorem dX6_faultAt_12 : decode cX6_faultAt 12 = .ok (.lload_n 2, 1) := by decide +kernel
theorem dX6_faultAt_13 : decode cX6_faultAt 13 = .ok (.lconst 0, 1) := by decide +kernel
theorem dX6_faultAt_14 : decode cX6_faultAt 14 = .ok (.lcmp, 1) := by decide +kernel
theorem dX6_faultAt_15 : decode cX6_faultAt 15 = .ok (.ifCond .lt 15, 3) := by decide +kernel
theorem dX6_faultAt_18 : decode cX6_faultAt 18 = .ok (.lload_n 2, 1) := by decide +kernel
theorem dX6_faultAt_19 : decode cX6_faultAt 19 = .ok (.aload_n 0, 1) := by decide +kernel
theorem dX6_faultAt_20 : decode cX6_faultAt 20 = .ok (.getfield 15, 3) := by decide +kernel
theorem dX6_faultAt_23 : decode cX6_faultAt 23 = .ok (.iload_n 1, 1) := by decide +kernel
theorem dX6_faultAt_24 : decode cX6_faultAt 24 = .ok (.iaload, 1) := by decide +kernel
theorem dX6_faultAt_25 : decode cX6_faultAt 25 = .ok (.i2l, 1) := by decide +kernel
theorem dX6_faultAt_26 : decode cX6_faultAt 26 = .ok (.lcmp, 1) := by decide +kernel
theorem dX6_faultAt_27 : decode cX6_faultAt 27 = .ok (.ifCond .lt 7, 3) := by decide +kernel
theorem dX6_faultAt_30 : decode cX6_faultAt 30 = .ok (.iconst 2, 1) := by decide +kernel
theorem dX6_faultAt_31 : decode cX6_faultAt 31 = .ok (.goto 4, 3) := by decide +kernel
theorem dX6_faultAt_34 : decode cX6_faultAt 34 = .ok (.iconst 0, 1) := by decide +kernel
theorem dX6_faultAt_35 : decode cX6_faultAt 35 = .ok (.ireturn, 1) := by decide +kernel
theorem dX6_fill_0 : decode cX6_fill 0 = .ok (.aload_n 0, 1) := by decide +kernel
theorem dX6_fill_1 : decode cX6_fill 1 = .ok (.iload_n 1, 1) := by decide +kernel
theorem dX6_fill_2 : decode cX6_fill 2 = .ok (.iload_n 2, 1) := by decide +kernel
theorem dX6_fill_3 : decode cX6_fill 3 = .ok (.i2l, 1) := by decide +kernel
theorem dX6_fill_4 : decode cX6_fill 4 = .ok (.invokevirtual 33, 3) := by decide +kernel
theorem dX6_fill_7 : decode cX6_fill 7 = .ok (.ifCond .ne 41, 3) := by decide +kernel
theorem dX6_fill_10 : decode cX6_fill 10 = .ok (.aload_n 0, 1) := by decide +kernel
theorem dX6_fill_11 : decode cX6_fill 11 = .ok (.getfield 20, 3) := by decide +kernel
theorem dX6_fill_14 : decode cX6_fill 14 = .ok (.iload_n 1, 1) := by decide +kernel
theorem dX6_fill_15 : decode cX6_fill 15 = .ok (.aaload, 1) := by decide +kernel
theorem dX6_fill_16 : decode cX6_fill 16 = .ok (.iload_n 2, 1) := by decide +kernel
theorem dX6_fill_17 : decode cX6_fill 17 = .ok (.aload_n 0, 1) := by decide +kernel
theorem dX6_fill_18 : decode cX6_fill 18 = .ok (.getfield 11, 3) := by decide +kernel
theorem dX6_fill_21 : decode cX6_fill 21 = .ok (.iload_n 1, 1) := by decide +kernel
theorem dX6_fill_22 : decode cX6_fill 22 = .ok (.iaload, 1) := by decide +kernel
theorem dX6_fill_23 : decode cX6_fill 23 = .ok (.ifCond .ne 8, 3) := by decide +kernel
theorem dX6_fill_26 : decode cX6_fill 26 = .ok (.iload_n 3, 1) := by decide +kernel
theorem dX6_fill_27 : decode cX6_fill 27 = .ok (.i2b, 1) := by decide +kernel
theorem dX6_fill_28 : decode cX6_fill 28 = .ok (.goto 19, 3) := by decide +kernel
theorem dX6_fill_31 : decode cX6_fill 31 = .ok (.aload_n 0, 1) := by decide +kernel
theorem dX6_fill_32 : decode cX6_fill 32 = .ok (.getfield 11, 3) := by decide +kernel
theorem dX6_fill_35 : decode cX6_fill 35 = .ok (.iload_n 1, 1) := by decide +kernel
theorem dX6_fill_36 : decode cX6_fill 36 = .ok (.iaload, 1) := by decide +kernel
theorem dX6_fill_37 : decode cX6_fill 37 = .ok (.iconst 1, 1) := by decide +kernel
theorem dX6_fill_38 : decode cX6_fill 38 = .ok (.if_icmp .ne 8, 3) := by decide +kernel
theorem dX6_fill_41 : decode cX6_fill 41 = .ok (.iload_n 3, 1) := by decide +kernel
theorem dX6_fill_42 : decode cX6_fill 42 = .ok (.i2s, 1) := by decide +kernel
theorem dX6_fill_43 : decode cX6_fill 43 = .ok (.goto 4, 3) := by decide +kernel
theorem dX6_fill_46 : decode cX6_fill 46 = .ok (.iload_n 3, 1) := by decide +kernel
theorem dX6_fill_47 : decode cX6_fill 47 = .ok (.iastore, 1) := by decide +kernel
theorem dX6_fill_48 : decode cX6_fill 48 = .ok (.return_, 1) := by decide +kernel
theorem dX6_takePairs_0 : decode cX6_takePairs 0 = .ok (.aload_n 0, 1) := by decide +kernel
theorem dX6_takePairs_1 : decode cX6_takePairs 1 = .ok (.iconst 0, 1) := by decide +kernel
theorem dX6_takePairs_2 : decode cX6_takePairs 2 = .ok (.putfield 37, 3) := by decide +kernel
theorem dX6_takePairs_5 : decode cX6_takePairs 5 = .ok (.aload_n 0, 1) := by decide +kernel
theorem dX6_takePairs_6 : decode cX6_takePairs 6 = .ok (.aload_n 0, 1) := by decide +kernel
theorem dX6_takePairs_7 : decode cX6_takePairs 7 = .ok (.getfield 11, 3) := by decide +kernel
theorem dX6_takePairs_10 : decode cX6_takePairs 10 = .ok (.iload_n 1, 1) := by decide +kernel
theorem dX6_takePairs_11 : decode cX6_takePairs 11 = .ok (.iaload, 1) := by decide +kernel
theorem dX6_takePairs_12 : decode cX6_takePairs 12 = .ok (.iconst (-1), 1) := by decide +kernel
theorem dX6_takePairs_13 : decode cX6_takePairs 13 = .ok (.if_icmp .eq 13, 3) := by decide +kernel
theorem dX6_takePairs_16 : decode cX6_takePairs 16 = .ok (.aload_n 0, 1) := by decide +kernel
theorem dX6_takePairs_17 : decode cX6_takePairs 17 = .ok (.getfield 11, 3) := by decide +kernel
theorem dX6_takePairs_20 : decode cX6_takePairs 20 = .ok (.iload_n 1, 1) := by decide +kernel
theorem dX6_takePairs_21 : decode cX6_takePairs 21 = .ok (.iaload, 1) := by decide +kernel
theorem dX6_takePairs_22 : decode cX6_takePairs 22 = .ok (.iload_n 2, 1) := by decide +kernel
theorem dX6_takePairs_23 : decode cX6_takePairs 23 = .ok (.if_icmp .ne 7, 3) := by decide +kernel
theorem dX6_takePairs_26 : decode cX6_takePairs 26 = .ok (.iconst 0, 1) := by decide +kernel
theorem dX6_takePairs_27 : decode cX6_takePairs 27 = .ok (.goto 4, 3) := by decide +kernel
theorem dX6_takePairs_30 : decode cX6_takePairs 30 = .ok (.iconst 3, 1) := by decide +kernel
theorem dX6_takePairs_31 : decode cX6_takePairs 31 = .ok (.putfield 41, 3) := by decide +kernel
theorem dX6_takePairs_34 : decode cX6_takePairs 34 = .ok (.iconst 0, 1) := by decide +kernel
theorem dX6_takePairs_35 : decode cX6_takePairs 35 = .ok (.istore 5, 2) := by decide +kernel
theorem dX6_takePairs_37 : decode cX6_takePairs 37 = .ok (.iload 5, 2) := by decide +kernel
theorem dX6_takePairs_39 : decode cX6_takePairs 39 = .ok (.iload 4, 2) := by decide +kernel
theorem dX6_takePairs_41 : decode cX6_takePairs 41 = .ok (.if_icmp .ge 119, 3) := by decide +kernel
theorem dX6_takePairs_44 : decode cX6_takePairs 44 = .ok (.iload 5, 2) := by decide +kernel
theorem dX6_takePairs_46 : decode cX6_takePairs 46 = .ok (.bipush 20, 2) := by decide +kernel
theorem dX6_takePairs_48 : decode cX6_takePairs 48 = .ok (.if_icmp .ge 112, 3) := by decide +kernel
theorem dX6_takePairs_51 : decode cX6_takePairs 51 = .ok (.aload_n 0, 1) := by decide +kernel
theorem dX6_takePairs_52 : decode cX6_takePairs 52 = .ok (.getfield 41, 3) := by decide +kernel
theorem dX6_takePairs_55 : decode cX6_takePairs 55 = .ok (.ifCond .ne 105, 3) := by decide +kernel
theorem dX6_takePairs_58 : decode cX6_takePairs 58 = .ok (.iload_n 3, 1) := by decide +kernel
theorem dX6_takePairs_59 : decode cX6_takePairs 59 = .ok (.i2l, 1) := by decide +kernel
theorem dX6_takePairs_60 : decode cX6_takePairs 60 = .ok (.ldc2_w 44, 3) := by decide +kernel
theorem dX6_takePairs_63 : decode cX6_takePairs 63 = .ok (.iload 5, 2) := by decide +kernel
theorem dX6_takePairs_65 : decode cX6_takePairs 65 = .ok (.i2l, 1) := by decide +kernel
theorem dX6_takePairs_66 : decode cX6_takePairs 66 = .ok (.lmul, 1) := by decide +kernel
theorem dX6_takePairs_67 : decode cX6_takePairs 67 = .ok (.ladd, 1) := by decide +kernel
theorem dX6_takePairs_68 : decode cX6_takePairs 68 = .ok (.lstore 6, 2) := by decide +kernel
theorem dX6_takePairs_70 : decode cX6_takePairs 70 = .ok (.aload_n 0, 1) := by decide +kernel
theorem dX6_takePairs_71 : decode cX6_takePairs 71 = .ok (.aload_n 0, 1) := by decide +kernel
theorem dX6_takePairs_72 : decode cX6_takePairs 72 = .ok (.iload_n 1, 1) := by decide +kernel
theorem dX6_takePairs_73 : decode cX6_takePairs 73 = .ok (.lload 6, 2) := by decide +kernel
theorem dX6_takePairs_75 : decode cX6_takePairs 75 = .ok (.invokevirtual 33, 3) := by decide +kernel
theorem dX6_takePairs_78 : decode cX6_takePairs 78 = .ok (.putfield 41, 3) := by decide +kernel
theorem dX6_takePairs_81 : decode cX6_takePairs 81 = .ok (.aload_n 0, 1) := by decide +kernel
theorem dX6_takePairs_82 : decode cX6_takePairs 82 = .ok (.getfield 41, 3) := by decide +kernel
theorem dX6_takePairs_85 : decode cX6_takePairs 85 = .ok (.ifCond .ne 16, 3) := by decide +kernel
theorem dX6_takePairs_88 : decode cX6_takePairs 88 = .ok (.aload_n 0, 1) := by decide +kernel
theorem dX6_takePairs_89 : decode cX6_takePairs 89 = .ok (.aload_n 0, 1) := by decide +kernel
theorem dX6_takePairs_90 : decode cX6_takePairs 90 = .ok (.iload_n 1, 1) := by decide +kernel
theorem dX6_takePairs_91 : decode cX6_takePairs 91 = .ok (.lload 6, 2) := by decide +kernel
theorem dX6_takePairs_93 : decode cX6_takePairs 93 = .ok (.lconst 1, 1) := by decide +kernel
theorem dX6_takePairs_94 : decode cX6_takePairs 94 = .ok (.ladd, 1) := by decide +kernel
theorem dX6_takePairs_95 : decode cX6_takePairs 95 = .ok (.invokevirtual 33, 3) := by decide +kernel
theorem dX6_takePairs_98 : decode cX6_takePairs 98 = .ok (.putfield 41, 3) := by decide +kernel
theorem dX6_takePairs_101 : decode cX6_takePairs 101 = .ok (.aload_n 0, 1) := by decide +kernel
theorem dX6_takePairs_102 : decode cX6_takePairs 102 = .ok (.getfield 41, 3) := by decide +kernel
theorem dX6_takePairs_105 : decode cX6_takePairs 105 = .ok (.ifCond .ne 49, 3) := by decide +kernel
theorem dX6_takePairs_108 : decode cX6_takePairs 108 = .ok (.aload_n 0, 1) := by decide +kernel
theorem dX6_takePairs_109 : decode cX6_takePairs 109 = .ok (.getfield 23, 3) := by decide +kernel
theorem dX6_takePairs_112 : decode cX6_takePairs 112 = .ok (.iload 5, 2) := by decide +kernel
theorem dX6_takePairs_114 : decode cX6_takePairs 114 = .ok (.aload_n 0, 1) := by decide +kernel
theorem dX6_takePairs_115 : decode cX6_takePairs 115 = .ok (.getfield 20, 3) := by decide +kernel
theorem dX6_takePairs_118 : decode cX6_takePairs 118 = .ok (.iload_n 1, 1) := by decide +kernel
theorem dX6_takePairs_119 : decode cX6_takePairs 119 = .ok (.aaload, 1) := by decide +kernel
theorem dX6_takePairs_120 : decode cX6_takePairs 120 = .ok (.lload 6, 2) := by decide +kernel
theorem dX6_takePairs_122 : decode cX6_takePairs 122 = .ok (.l2i, 1) := by decide +kernel
theorem dX6_takePairs_123 : decode cX6_takePairs 123 = .ok (.iaload, 1) := by decide +kernel
theorem dX6_takePairs_124 : decode cX6_takePairs 124 = .ok (.iastore, 1) := by decide +kernel
theorem dX6_takePairs_125 : decode cX6_takePairs 125 = .ok (.aload_n 0, 1) := by decide +kernel
theorem dX6_takePairs_126 : decode cX6_takePairs 126 = .ok (.getfield 26, 3) := by decide +kernel
theorem dX6_takePairs_129 : decode cX6_takePairs 129 = .ok (.iload 5, 2) := by decide +kernel
theorem dX6_takePairs_131 : decode cX6_takePairs 131 = .ok (.aload_n 0, 1) := by decide +kernel
theorem dX6_takePairs_132 : decode cX6_takePairs 132 = .ok (.getfield 20, 3) := by decide +kernel
theorem dX6_takePairs_135 : decode cX6_takePairs 135 = .ok (.iload_n 1, 1) := by decide +kernel
theorem dX6_takePairs_136 : decode cX6_takePairs 136 = .ok (.aaload, 1) := by decide +kernel
theorem dX6_takePairs_137 : decode cX6_takePairs 137 = .ok (.lload 6, 2) := by decide +kernel
theorem dX6_takePairs_139 : decode cX6_takePairs 139 = .ok (.l2i, 1) := by decide +kernel
theorem dX6_takePairs_140 : decode cX6_takePairs 140 = .ok (.iconst 1, 1) := by decide +kernel
theorem dX6_takePairs_141 : decode cX6_takePairs 141 = .ok (.iadd, 1) := by decide +kernel
theorem dX6_takePairs_142 : decode cX6_takePairs 142 = .ok (.iaload, 1) := by decide +kernel
theorem dX6_takePairs_143 : decode cX6_takePairs 143 = .ok (.iastore, 1) := by decide +kernel
theorem dX6_takePairs_144 : decode cX6_takePairs 144 = .ok (.aload_n 0, 1) := by decide +kernel
theorem dX6_takePairs_145 : decode cX6_takePairs 145 = .ok (.dup, 1) := by decide +kernel
theorem dX6_takePairs_146 : decode cX6_takePairs 146 = .ok (.getfield 37, 3) := by decide +kernel
theorem dX6_takePairs_149 : decode cX6_takePairs 149 = .ok (.iconst 1, 1) := by decide +kernel
theorem dX6_takePairs_150 : decode cX6_takePairs 150 = .ok (.iadd, 1) := by decide +kernel
theorem dX6_takePairs_151 : decode cX6_takePairs 151 = .ok (.putfield 37, 3) := by decide +kernel
theorem dX6_takePairs_154 : decode cX6_takePairs 154 = .ok (.iinc 5 1, 3) := by decide +kernel
theorem dX6_takePairs_157 : decode cX6_takePairs 157 = .ok (.goto (-120), 3) := by decide +kernel
theorem dX6_takePairs_160 : decode cX6_takePairs 160 = .ok (.return_, 1) := by decide +kernel
theorem dX7_init_0 : decode cX7_init 0 = .ok (.aload_n 0, 1) := by decide +kernel
theorem dX7_init_1 : decode cX7_init 1 = .ok (.invokespecial 1, 3) := by decide +kernel
theorem dX7_init_4 : decode cX7_init 4 = .ok (.aload_n 0, 1) := by decide +kernel
theorem dX7_init_5 : decode cX7_init 5 = .ok (.sipush 320, 3) := by decide +kernel
theorem dX7_init_8 : decode cX7_init 8 = .ok (.newarray .int, 2) := by decide +kernel
theorem dX7_init_10 : decode cX7_init 10 = .ok (.putfield 9, 3) := by decide +kernel
theorem dX7_init_13 : decode cX7_init 13 = .ok (.return_, 1) := by decide +kernel
theorem dX7_addBytes_0 : decode cX7_addBytes 0 = .ok (.aload_n 0, 1) := by decide +kernel
theorem dX7_addBytes_1 : decode cX7_addBytes 1 = .ok (.getfield 13, 3) := by decide +kernel
theorem dX7_addBytes_4 : decode cX7_addBytes 4 = .ok (.ifCond .lt 16, 3) := by decide +kernel
theorem dX7_addBytes_7 : decode cX7_addBytes 7 = .ok (.aload_n 0, 1) := by decide +kernel
theorem dX7_addBytes_8 : decode cX7_addBytes 8 = .ok (.getfield 13, 3) := by decide +kernel
theorem dX7_addBytes_11 : decode cX7_addBytes 11 = .ok (.bipush 8, 2) := by decide +kernel
theorem dX7_addBytes_13 : decode cX7_addBytes 13 = .ok (.iadd, 1) := by decide +kernel
theorem dX7_addBytes_14 : decode cX7_addBytes 14 = .ok (.sipush 320, 3) := by decide +kernel
theorem dX7_addBytes_17 : decode cX7_addBytes 17 = .ok (.if_icmp .le 5, 3) := by decide +kernel
theorem dX7_addBytes_20 : decode cX7_addBytes 20 = .ok (.iconst 0, 1) := by decide +kernel
theorem dX7_addBytes_21 : decode cX7_addBytes 21 = .ok (.ireturn, 1) := by decide +kernel
theorem dX7_addBytes_22 : decode cX7_addBytes 22 = .ok (.bipush 56, 2) := by decide +kernel
theorem dX7_addBytes_24 : decode cX7_addBytes 24 = .ok (.istore_n 3, 1) := by decide +kernel
theorem dX7_addBytes_25 : decode cX7_addBytes 25 = .ok (.iload_n 3, 1) := by decide +kernel
theorem dX7_addBytes_26 : decode cX7_addBytes 26 = .ok (.ifCond .lt 36, 3) := by decide +kernel
theorem dX7_addBytes_29 : decode cX7_addBytes 29 = .ok (.aload_n 0, 1) := by decide +kernel
theorem dX7_addBytes_30 : decode cX7_addBytes 30 = .ok (.getfield 9, 3) := by decide +kernel
theorem dX7_addBytes_33 : decode cX7_addBytes 33 = .ok (.aload_n 0, 1) := by decide +kernel
theorem dX7_addBytes_34 : decode cX7_addBytes 34 = .ok (.getfield 13, 3) := by decide +kernel
theorem dX7_addBytes_37 : decode cX7_addBytes 37 = .ok (.lload_n 1, 1) := by decide +kernel
theorem dX7_addBytes_38 : decode cX7_addBytes 38 = .ok (.iload_n 3, 1) := by decide +kernel
theorem dX7_addBytes_39 : decode cX7_addBytes 39 = .ok (.lushr, 1) := by decide +kernel
theorem dX7_addBytes_40 : decode cX7_addBytes 40 = .ok (.ldc2_w 17, 3) := by decide +kernel
theorem dX7_addBytes_43 : decode cX7_addBytes 43 = .ok (.land, 1) := by decide +kernel
theorem dX7_addBytes_44 : decode cX7_addBytes 44 = .ok (.l2i, 1) := by decide +kernel
theorem dX7_addBytes_45 : decode cX7_addBytes 45 = .ok (.iastore, 1) := by decide +kernel
theorem dX7_addBytes_46 : decode cX7_addBytes 46 = .ok (.aload_n 0, 1) := by decide +kernel
theorem dX7_addBytes_47 : decode cX7_addBytes 47 = .ok (.dup, 1) := by decide +kernel
theorem dX7_addBytes_48 : decode cX7_addBytes 48 = .ok (.getfield 13, 3) := by decide +kernel
theorem dX7_addBytes_51 : decode cX7_addBytes 51 = .ok (.iconst 1, 1) := by decide +kernel
theorem dX7_addBytes_52 : decode cX7_addBytes 52 = .ok (.iadd, 1) := by decide +kernel
theorem dX7_addBytes_53 : decode cX7_addBytes 53 = .ok (.putfield 13, 3) := by decide +kernel
theorem dX7_addBytes_56 : decode cX7_addBytes 56 = .ok (.iinc 3 (-8), 3) := by decide +kernel
theorem dX7_addBytes_59 : decode cX7_addBytes 59 = .ok (.goto (-34), 3) := by decide +kernel
theorem dX7_addBytes_62 : decode cX7_addBytes 62 = .ok (.iconst 1, 1) := by decide +kernel
theorem dX7_addBytes_63 : decode cX7_addBytes 63 = .ok (.ireturn, 1) := by decide +kernel
theorem dX7_byteAt_0 : decode cX7_byteAt 0 = .ok (.iload_n 1, 1) := by decide +kernel
theorem dX7_byteAt_1 : decode cX7_byteAt 1 = .ok (.ifCond .lt 20, 3) := by decide +kernel
theorem dX7_byteAt_4 : decode cX7_byteAt 4 = .ok (.iload_n 1, 1) := by decide +kernel
theorem dX7_byteAt_5 : decode cX7_byteAt 5 = .ok (.aload_n 0, 1) := by decide +kernel
theorem dX7_byteAt_6 : decode cX7_byteAt 6 = .ok (.getfield 13, 3) := by decide +kernel
theorem dX7_byteAt_9 : decode cX7_byteAt 9 = .ok (.if_icmp .ge 12, 3) := by decide +kernel
theorem dX7_byteAt_12 : decode cX7_byteAt 12 = .ok (.aload_n 0, 1) := by decide +kernel
theorem dX7_byteAt_13 : decode cX7_byteAt 13 = .ok (.getfield 9, 3) := by decide +kernel
theorem dX7_byteAt_16 : decode cX7_byteAt 16 = .ok (.iload_n 1, 1) := by decide +kernel
theorem dX7_byteAt_17 : decode cX7_byteAt 17 = .ok (.iaload, 1) := by decide +kernel
theorem dX7_byteAt_18 : decode cX7_byteAt 18 = .ok (.goto 4, 3) := by decide +kernel
theorem dX7_byteAt_21 : decode cX7_byteAt 21 = .ok (.iconst 0, 1) := by decide +kernel
theorem dX7_byteAt_22 : decode cX7_byteAt 22 = .ok (.ireturn, 1) := by decide +kernel
theorem dX7_says_0 : decode cX7_says 0 = .ok (.iload_n 1, 1) := by decide +kernel
theorem dX7_says_1 : decode cX7_says 1 = .ok (.ifCond .lt 21, 3) := by decide +kernel
theorem dX7_says_4 : decode cX7_says 4 = .ok (.iload_n 2, 1) := by decide +kernel
theorem dX7_says_5 : decode cX7_says 5 = .ok (.aload_n 0, 1) := by decide +kernel
theorem dX7_says_6 : decode cX7_says 6 = .ok (.getfield 13, 3) := by decide +kernel
theorem dX7_says_9 : decode cX7_says 9 = .ok (.if_icmp .gt 13, 3) := by decide +kernel
theorem dX7_says_12 : decode cX7_says 12 = .ok (.iload_n 2, 1) := by decide +kernel
theorem dX7_says_13 : decode cX7_says 13 = .ok (.iload_n 1, 1) := by decide +kernel
theorem dX7_says_14 : decode cX7_says 14 = .ok (.isub, 1) := by decide +kernel
theorem dX7_says_15 : decode cX7_says 15 = .ok (.aload_n 3, 1) := by decide +kernel
theorem dX7_says_16 : decode cX7_says 16 = .ok (.invokevirtual 19, 3) := by decide +kernel
theorem dX7_says_19 : decode cX7_says 19 = .ok (.if_icmp .eq 5, 3) := by decide +kernel
theorem dX7_says_22 : decode cX7_says 22 = .ok (.iconst 0, 1) := by decide +kernel
theorem dX7_says_23 : decode cX7_says 23 = .ok (.ireturn, 1) := by decide +kernel
theorem dX7_says_24 : decode cX7_says 24 = .ok (.iconst 0, 1) := by decide +kernel
theorem dX7_says_25 : decode cX7_says 25 = .ok (.istore 4, 2) := by decide +kernel
theorem dX7_says_27 : decode cX7_says 27 = .ok (.iload 4, 2) := by decide +kernel
theorem dX7_says_29 : decode cX7_says 29 = .ok (.aload_n 3, 1) := by decide +kernel
theorem dX7_says_30 : decode cX7_says 30 = .ok (.invokevirtual 19, 3) := by decide +kernel
theorem dX7_says_33 : decode cX7_says 33 = .ok (.if_icmp .ge 29, 3) := by decide +kernel
theorem dX7_says_36 : decode cX7_says 36 = .ok (.aload_n 0, 1) := by decide +kernel
theorem dX7_says_37 : decode cX7_says 37 = .ok (.getfield 9, 3) := by decide +kernel
theorem dX7_says_40 : decode cX7_says 40 = .ok (.iload_n 1, 1) := by decide +kernel
theorem dX7_says_41 : decode cX7_says 41 = .ok (.iload 4, 2) := by decide +kernel
theorem dX7_says_43 : decode cX7_says 43 = .ok (.iadd, 1) := by decide +kernel
theorem dX7_says_44 : decode cX7_says 44 = .ok (.iaload, 1) := by decide +kernel
theorem dX7_says_45 : decode cX7_says 45 = .ok (.aload_n 3, 1) := by decide +kernel
theorem dX7_says_46 : decode cX7_says 46 = .ok (.iload 4, 2) := by decide +kernel
theorem dX7_says_48 : decode cX7_says 48 = .ok (.invokevirtual 24, 3) := by decide +kernel
theorem dX7_says_51 : decode cX7_says 51 = .ok (.if_icmp .eq 5, 3) := by decide +kernel
theorem dX7_says_54 : decode cX7_says 54 = .ok (.iconst 0, 1) := by decide +kernel
theorem dX7_says_55 : decode cX7_says 55 = .ok (.ireturn, 1) := by decide +kernel
theorem dX7_says_56 : decode cX7_says 56 = .ok (.iinc 4 1, 3) := by decide +kernel
theorem dX7_says_59 : decode cX7_says 59 = .ok (.goto (-32), 3) := by decide +kernel
theorem dX7_says_62 : decode cX7_says 62 = .ok (.iconst 1, 1) := by decide +kernel
theorem dX7_says_63 : decode cX7_says 63 = .ok (.ireturn, 1) := by decide +kernel
theorem dX7_pastAll_0 : decode cX7_pastAll 0 = .ok (.iload_n 1, 1) := by decide +kernel
theorem dX7_pastAll_1 : decode cX7_pastAll 1 = .ok (.istore 4, 2) := by decide +kernel
theorem dX7_pastAll_3 : decode cX7_pastAll 3 = .ok (.iload 4, 2) := by decide +kernel
theorem dX7_pastAll_5 : decode cX7_pastAll 5 = .ok (.ifCond .lt 40, 3) := by decide +kernel
theorem dX7_pastAll_8 : decode cX7_pastAll 8 = .ok (.iload 4, 2) := by decide +kernel
theorem dX7_pastAll_10 : decode cX7_pastAll 10 = .ok (.aload_n 0, 1) := by decide +kernel
theorem dX7_pastAll_11 : decode cX7_pastAll 11 = .ok (.getfield 13, 3) := by decide +kernel
theorem dX7_pastAll_14 : decode cX7_pastAll 14 = .ok (.if_icmp .ge 31, 3) := by decide +kernel
theorem dX7_pastAll_17 : decode cX7_pastAll 17 = .ok (.aload_n 0, 1) := by decide +kernel
theorem dX7_pastAll_18 : decode cX7_pastAll 18 = .ok (.getfield 9, 3) := by decide +kernel
theorem dX7_pastAll_21 : decode cX7_pastAll 21 = .ok (.iload 4, 2) := by decide +kernel
theorem dX7_pastAll_23 : decode cX7_pastAll 23 = .ok (.iaload, 1) := by decide +kernel
theorem dX7_pastAll_24 : decode cX7_pastAll 24 = .ok (.iload_n 2, 1) := by decide +kernel
theorem dX7_pastAll_25 : decode cX7_pastAll 25 = .ok (.if_icmp .lt 20, 3) := by decide +kernel
theorem dX7_pastAll_28 : decode cX7_pastAll 28 = .ok (.aload_n 0, 1) := by decide +kernel
theorem dX7_pastAll_29 : decode cX7_pastAll 29 = .ok (.getfield 9, 3) := by decide +kernel
theorem dX7_pastAll_32 : decode cX7_pastAll 32 = .ok (.iload 4, 2) := by decide +kernel
theorem dX7_pastAll_34 : decode cX7_pastAll 34 = .ok (.iaload, 1) := by decide +kernel
theorem dX7_pastAll_35 : decode cX7_pastAll 35 = .ok (.iload_n 3, 1) := by decide +kernel
theorem dX7_pastAll_36 : decode cX7_pastAll 36 = .ok (.if_icmp .gt 9, 3) := by decide +kernel
theorem dX7_pastAll_39 : decode cX7_pastAll 39 = .ok (.iinc 4 1, 3) := by decide +kernel
theorem dX7_pastAll_42 : decode cX7_pastAll 42 = .ok (.goto (-39), 3) := by decide +kernel
theorem dX7_pastAll_45 : decode cX7_pastAll 45 = .ok (.iload 4, 2) := by decide +kernel
theorem dX7_pastAll_47 : decode cX7_pastAll 47 = .ok (.ireturn, 1) := by decide +kernel
theorem dX8_init_0 : decode cX8_init 0 = .ok (.aload_n 0, 1) := by decide +kernel
theorem dX8_init_1 : decode cX8_init 1 = .ok (.invokespecial 3, 3) := by decide +kernel
theorem dX8_init_4 : decode cX8_init 4 = .ok (.aload_n 0, 1) := by decide +kernel
theorem dX8_init_5 : decode cX8_init 5 = .ok (.bipush 11, 2) := by decide +kernel
theorem dX8_init_7 : decode cX8_init 7 = .ok (.bipush 10, 2) := by decide +kernel
theorem dX8_init_9 : decode cX8_init 9 = .ok (.multianewarray 9 2, 4) := by decide +kernel
theorem dX8_init_13 : decode cX8_init 13 = .ok (.putfield 11, 3) := by decide +kernel
theorem dX8_init_16 : decode cX8_init 16 = .ok (.aload_n 0, 1) := by decide +kernel
theorem dX8_init_17 : decode cX8_init 17 = .ok (.bipush 11, 2) := by decide +kernel
theorem dX8_init_19 : decode cX8_init 19 = .ok (.bipush 10, 2) := by decide +kernel
theorem dX8_init_21 : decode cX8_init 21 = .ok (.multianewarray 9 2, 4) := by decide +kernel
theorem dX8_init_25 : decode cX8_init 25 = .ok (.putfield 16, 3) := by decide +kernel
theorem dX8_init_28 : decode cX8_init 28 = .ok (.return_, 1) := by decide +kernel
theorem dX8_explore_0 : decode cX8_explore 0 = .ok (.iconst 0, 1) := by decide +kernel
theorem dX8_explore_1 : decode cX8_explore 1 = .ok (.istore_n 3, 1) := by decide +kernel
theorem dX8_explore_2 : decode cX8_explore 2 = .ok (.iload_n 3, 1) := by decide +kernel
theorem dX8_explore_3 : decode cX8_explore 3 = .ok (.bipush 10, 2) := by decide +kernel
theorem dX8_explore_5 : decode cX8_explore 5 = .ok (.if_icmp .ge 42, 3) := by decide +kernel
theorem dX8_explore_8 : decode cX8_explore 8 = .ok (.aload_n 0, 1) := by decide +kernel
theorem dX8_explore_9 : decode cX8_explore 9 = .ok (.getfield 11, 3) := by decide +kernel
theorem dX8_explore_12 : decode cX8_explore 12 = .ok (.iconst 0, 1) := by decide +kernel
theorem dX8_explore_13 : decode cX8_explore 13 = .ok (.aaload, 1) := by decide +kernel
theorem dX8_explore_14 : decode cX8_explore 14 = .ok (.iload_n 3, 1) := by decide +kernel
theorem dX8_explore_15 : decode cX8_explore 15 = .ok (.iload_n 3, 1) := by decide +kernel
theorem dX8_explore_16 : decode cX8_explore 16 = .ok (.aload_n 1, 1) := by decide +kernel
theorem dX8_explore_17 : decode cX8_explore 17 = .ok (.getfield 19, 3) := by decide +kernel
theorem dX8_explore_20 : decode cX8_explore 20 = .ok (.if_icmp .ne 7, 3) := by decide +kernel
theorem dX8_explore_23 : decode cX8_explore 23 = .ok (.iconst 1, 1) := by decide +kernel
theorem dX8_explore_24 : decode cX8_explore 24 = .ok (.goto 4, 3) := by decide +kernel
theorem dX8_explore_27 : decode cX8_explore 27 = .ok (.iconst 0, 1) := by decide +kernel
theorem dX8_explore_28 : decode cX8_explore 28 = .ok (.iastore, 1) := by decide +kernel
theorem dX8_explore_29 : decode cX8_explore 29 = .ok (.aload_n 0, 1) := by decide +kernel
theorem dX8_explore_30 : decode cX8_explore 30 = .ok (.getfield 16, 3) := by decide +kernel
theorem dX8_explore_33 : decode cX8_explore 33 = .ok (.aload_n 1, 1) := by decide +kernel
theorem dX8_explore_34 : decode cX8_explore 34 = .ok (.getfield 25, 3) := by decide +kernel
theorem dX8_explore_37 : decode cX8_explore 37 = .ok (.aaload, 1) := by decide +kernel
theorem dX8_explore_38 : decode cX8_explore 38 = .ok (.iload_n 3, 1) := by decide +kernel
theorem dX8_explore_39 : decode cX8_explore 39 = .ok (.iconst 1, 1) := by decide +kernel
theorem dX8_explore_40 : decode cX8_explore 40 = .ok (.iastore, 1) := by decide +kernel
theorem dX8_explore_41 : decode cX8_explore 41 = .ok (.iinc 3 1, 3) := by decide +kernel
theorem dX8_explore_44 : decode cX8_explore 44 = .ok (.goto (-42), 3) := by decide +kernel
theorem dX8_explore_47 : decode cX8_explore 47 = .ok (.iconst 0, 1) := by decide +kernel
theorem dX8_explore_48 : decode cX8_explore 48 = .ok (.istore_n 3, 1) := by decide +kernel
theorem dX8_explore_49 : decode cX8_explore 49 = .ok (.iload_n 3, 1) := by decide +kernel
theorem dX8_explore_50 : decode cX8_explore 50 = .ok (.aload_n 1, 1) := by decide +kernel
theorem dX8_explore_51 : decode cX8_explore 51 = .ok (.getfield 25, 3) := by decide +kernel
theorem dX8_explore_54 : decode cX8_explore 54 = .ok (.if_icmp .ge 32, 3) := by decide +kernel
theorem dX8_explore_57 : decode cX8_explore 57 = .ok (.aload_n 0, 1) := by decide +kernel
theorem dX8_explore_58 : decode cX8_explore 58 = .ok (.aload_n 1, 1) := by decide +kernel
theorem dX8_explore_59 : decode cX8_explore 59 = .ok (.iload_n 3, 1) := by decide +kernel
theorem dX8_explore_60 : decode cX8_explore 60 = .ok (.invokevirtual 28, 3) := by decide +kernel
theorem dX8_explore_63 : decode cX8_explore 63 = .ok (.iload_n 3, 1) := by decide +kernel
theorem dX8_explore_64 : decode cX8_explore 64 = .ok (.invokevirtual 32, 3) := by decide +kernel
theorem dX8_explore_67 : decode cX8_explore 67 = .ok (.aload_n 0, 1) := by decide +kernel
theorem dX8_explore_68 : decode cX8_explore 68 = .ok (.getfield 11, 3) := by decide +kernel
theorem dX8_explore_71 : decode cX8_explore 71 = .ok (.iload_n 3, 1) := by decide +kernel
theorem dX8_explore_72 : decode cX8_explore 72 = .ok (.iconst 1, 1) := by decide +kernel
theorem dX8_explore_73 : decode cX8_explore 73 = .ok (.iadd, 1) := by decide +kernel
theorem dX8_explore_74 : decode cX8_explore 74 = .ok (.aaload, 1) := by decide +kernel
theorem dX8_explore_75 : decode cX8_explore 75 = .ok (.aload_n 2, 1) := by decide +kernel
theorem dX8_explore_76 : decode cX8_explore 76 = .ok (.iload_n 3, 1) := by decide +kernel
theorem dX8_explore_77 : decode cX8_explore 77 = .ok (.invokestatic 36, 3) := by decide +kernel
theorem dX8_explore_80 : decode cX8_explore 80 = .ok (.iinc 3 1, 3) := by decide +kernel
theorem dX8_explore_83 : decode cX8_explore 83 = .ok (.goto (-34), 3) := by decide +kernel
theorem dX8_explore_86 : decode cX8_explore 86 = .ok (.aload_n 1, 1) := by decide +kernel
theorem dX8_explore_87 : decode cX8_explore 87 = .ok (.getfield 25, 3) := by decide +kernel
theorem dX8_explore_90 : decode cX8_explore 90 = .ok (.iconst 1, 1) := by decide +kernel
theorem dX8_explore_91 : decode cX8_explore 91 = .ok (.isub, 1) := by decide +kernel
theorem dX8_explore_92 : decode cX8_explore 92 = .ok (.istore_n 3, 1) := by decide +kernel
theorem dX8_explore_93 : decode cX8_explore 93 = .ok (.iload_n 3, 1) := by decide +kernel
theorem dX8_explore_94 : decode cX8_explore 94 = .ok (.ifCond .lt 32, 3) := by decide +kernel
theorem dX8_explore_97 : decode cX8_explore 97 = .ok (.aload_n 0, 1) := by decide +kernel
theorem dX8_explore_98 : decode cX8_explore 98 = .ok (.getfield 16, 3) := by decide +kernel
theorem dX8_explore_101 : decode cX8_explore 101 = .ok (.iload_n 3, 1) := by decide +kernel
theorem dX8_explore_102 : decode cX8_explore 102 = .ok (.iconst 1, 1) := by decide +kernel
theorem dX8_explore_103 : decode cX8_explore 103 = .ok (.iadd, 1) := by decide +kernel
theorem dX8_explore_104 : decode cX8_explore 104 = .ok (.aaload, 1) := by decide +kernel
theorem dX8_explore_105 : decode cX8_explore 105 = .ok (.aload_n 2, 1) := by decide +kernel
theorem dX8_explore_106 : decode cX8_explore 106 = .ok (.iload_n 3, 1) := by decide +kernel
theorem dX8_explore_107 : decode cX8_explore 107 = .ok (.invokestatic 36, 3) := by decide +kernel
theorem dX8_explore_110 : decode cX8_explore 110 = .ok (.aload_n 0, 1) := by decide +kernel
theorem dX8_explore_111 : decode cX8_explore 111 = .ok (.aload_n 1, 1) := by decide +kernel
theorem dX8_explore_112 : decode cX8_explore 112 = .ok (.iload_n 3, 1) := by decide +kernel
theorem dX8_explore_113 : decode cX8_explore 113 = .ok (.invokevirtual 28, 3) := by decide +kernel
theorem dX8_explore_116 : decode cX8_explore 116 = .ok (.iload_n 3, 1) := by decide +kernel
theorem dX8_explore_117 : decode cX8_explore 117 = .ok (.invokevirtual 40, 3) := by decide +kernel
theorem dX8_explore_120 : decode cX8_explore 120 = .ok (.iinc 3 (-1), 3) := by decide +kernel
theorem dX8_explore_123 : decode cX8_explore 123 = .ok (.goto (-30), 3) := by decide +kernel
theorem dX8_explore_126 : decode cX8_explore 126 = .ok (.aload_n 0, 1) := by decide +kernel
theorem dX8_explore_127 : decode cX8_explore 127 = .ok (.aload_n 0, 1) := by decide +kernel
theorem dX8_explore_128 : decode cX8_explore 128 = .ok (.getfield 16, 3) := by decide +kernel
theorem dX8_explore_131 : decode cX8_explore 131 = .ok (.iconst 0, 1) := by decide +kernel
theorem dX8_explore_132 : decode cX8_explore 132 = .ok (.aaload, 1) := by decide +kernel
theorem dX8_explore_133 : decode cX8_explore 133 = .ok (.aload_n 1, 1) := by decide +kernel
theorem dX8_explore_134 : decode cX8_explore 134 = .ok (.getfield 19, 3) := by decide +kernel
theorem dX8_explore_137 : decode cX8_explore 137 = .ok (.iaload, 1) := by decide +kernel
theorem dX8_explore_138 : decode cX8_explore 138 = .ok (.putfield 43, 3) := by decide +kernel
theorem dX8_explore_141 : decode cX8_explore 141 = .ok (.return_, 1) := by decide +kernel
theorem dX8_dropUnmarked_0 : decode cX8_dropUnmarked 0 = .ok (.iconst 0, 1) := by decide +kernel
theorem dX8_dropUnmarked_1 : decode cX8_dropUnmarked 1 = .ok (.istore_n 3, 1) := by decide +kernel
theorem dX8_dropUnmarked_2 : decode cX8_dropUnmarked 2 = .ok (.iload_n 3, 1) := by decide +kernel
theorem dX8_dropUnmarked_3 : decode cX8_dropUnmarked 3 = .ok (.aload_n 0, 1) := by decide +kernel
theorem dX8_dropUnmarked_4 : decode cX8_dropUnmarked 4 = .ok (.arraylength, 1) := by decide +kernel
theorem dX8_dropUnmarked_5 : decode cX8_dropUnmarked 5 = .ok (.if_icmp .ge 22, 3) := by decide +kernel
theorem dX8_dropUnmarked_8 : decode cX8_dropUnmarked 8 = .ok (.aload_n 1, 1) := by decide +kernel
theorem dX8_dropUnmarked_9 : decode cX8_dropUnmarked 9 = .ok (.iload_n 2, 1) := by decide +kernel
theorem dX8_dropUnmarked_10 : decode cX8_dropUnmarked 10 = .ok (.iload_n 3, 1) := by decide +kernel
theorem dX8_dropUnmarked_11 : decode cX8_dropUnmarked 11 = .ok (.invokevirtual 46, 3) := by decide +kernel
theorem dX8_dropUnmarked_14 : decode cX8_dropUnmarked 14 = .ok (.ifCond .ne 7, 3) := by decide +kernel
theorem dX8_dropUnmarked_17 : decode cX8_dropUnmarked 17 = .ok (.aload_n 0, 1) := by decide +kernel
theorem dX8_dropUnmarked_18 : decode cX8_dropUnmarked 18 = .ok (.iload_n 3, 1) := by decide +kernel
theorem dX8_dropUnmarked_19 : decode cX8_dropUnmarked 19 = .ok (.iconst 0, 1) := by decide +kernel
theorem dX8_dropUnmarked_20 : decode cX8_dropUnmarked 20 = .ok (.iastore, 1) := by decide +kernel
theorem dX8_dropUnmarked_21 : decode cX8_dropUnmarked 21 = .ok (.iinc 3 1, 3) := by decide +kernel
theorem dX8_dropUnmarked_24 : decode cX8_dropUnmarked 24 = .ok (.goto (-22), 3) := by decide +kernel
theorem dX8_dropUnmarked_27 : decode cX8_dropUnmarked 27 = .ok (.return_, 1) := by decide +kernel
theorem dX8_leadInto_0 : decode cX8_leadInto 0 = .ok (.iconst 0, 1) := by decide +kernel
theorem dX8_leadInto_1 : decode cX8_leadInto 1 = .ok (.istore_n 3, 1) := by decide +kernel
theorem dX8_leadInto_2 : decode cX8_leadInto 2 = .ok (.iload_n 3, 1) := by decide +kernel
theorem dX8_leadInto_3 : decode cX8_leadInto 3 = .ok (.bipush 10, 2) := by decide +kernel
theorem dX8_leadInto_5 : decode cX8_leadInto 5 = .ok (.if_icmp .ge 20, 3) := by decide +kernel
theorem dX8_leadInto_8 : decode cX8_leadInto 8 = .ok (.aload_n 0, 1) := by decide +kernel
theorem dX8_leadInto_9 : decode cX8_leadInto 9 = .ok (.getfield 11, 3) := by decide +kernel
theorem dX8_leadInto_12 : decode cX8_leadInto 12 = .ok (.iload_n 2, 1) := by decide +kernel
theorem dX8_leadInto_13 : decode cX8_leadInto 13 = .ok (.iconst 1, 1) := by decide +kernel
theorem dX8_leadInto_14 : decode cX8_leadInto 14 = .ok (.iadd, 1) := by decide +kernel
theorem dX8_leadInto_15 : decode cX8_leadInto 15 = .ok (.aaload, 1) := by decide +kernel
theorem dX8_leadInto_16 : decode cX8_leadInto 16 = .ok (.iload_n 3, 1) := by decide +kernel
theorem dX8_leadInto_17 : decode cX8_leadInto 17 = .ok (.iconst 0, 1) := by decide +kernel
theorem dX8_leadInto_18 : decode cX8_leadInto 18 = .ok (.iastore, 1) := by decide +kernel
theorem dX8_leadInto_19 : decode cX8_leadInto 19 = .ok (.iinc 3 1, 3) := by decide +kernel
theorem dX8_leadInto_22 : decode cX8_leadInto 22 = .ok (.goto (-20), 3) := by decide +kernel
theorem dX8_leadInto_25 : decode cX8_leadInto 25 = .ok (.aload_n 0, 1) := by decide +kernel
theorem dX8_leadInto_26 : decode cX8_leadInto 26 = .ok (.getfield 11, 3) := by decide +kernel
theorem dX8_leadInto_29 : decode cX8_leadInto 29 = .ok (.iload_n 2, 1) := by decide +kernel
theorem dX8_leadInto_30 : decode cX8_leadInto 30 = .ok (.iconst 1, 1) := by decide +kernel
theorem dX8_leadInto_31 : decode cX8_leadInto 31 = .ok (.iadd, 1) := by decide +kernel
theorem dX8_leadInto_32 : decode cX8_leadInto 32 = .ok (.aaload, 1) := by decide +kernel
theorem dX8_leadInto_33 : decode cX8_leadInto 33 = .ok (.iconst 0, 1) := by decide +kernel
theorem dX8_leadInto_34 : decode cX8_leadInto 34 = .ok (.aload_n 0, 1) := by decide +kernel
theorem dX8_leadInto_35 : decode cX8_leadInto 35 = .ok (.getfield 11, 3) := by decide +kernel
theorem dX8_leadInto_38 : decode cX8_leadInto 38 = .ok (.iload_n 2, 1) := by decide +kernel
theorem dX8_leadInto_39 : decode cX8_leadInto 39 = .ok (.aaload, 1) := by decide +kernel
theorem dX8_leadInto_40 : decode cX8_leadInto 40 = .ok (.iconst 0, 1) := by decide +kernel
theorem dX8_leadInto_41 : decode cX8_leadInto 41 = .ok (.iaload, 1) := by decide +kernel
theorem dX8_leadInto_42 : decode cX8_leadInto 42 = .ok (.iastore, 1) := by decide +kernel
theorem dX8_leadInto_43 : decode cX8_leadInto 43 = .ok (.iconst 1, 1) := by decide +kernel
theorem dX8_leadInto_44 : decode cX8_leadInto 44 = .ok (.istore_n 3, 1) := by decide +kernel
theorem dX8_leadInto_45 : decode cX8_leadInto 45 = .ok (.iload_n 3, 1) := by decide +kernel
theorem dX8_leadInto_46 : decode cX8_leadInto 46 = .ok (.bipush 10, 2) := by decide +kernel
theorem dX8_leadInto_48 : decode cX8_leadInto 48 = .ok (.if_icmp .ge 70, 3) := by decide +kernel
theorem dX8_leadInto_51 : decode cX8_leadInto 51 = .ok (.iload_n 1, 1) := by decide +kernel
theorem dX8_leadInto_52 : decode cX8_leadInto 52 = .ok (.ifCond .le 26, 3) := by decide +kernel
theorem dX8_leadInto_55 : decode cX8_leadInto 55 = .ok (.aload_n 0, 1) := by decide +kernel
theorem dX8_leadInto_56 : decode cX8_leadInto 56 = .ok (.getfield 11, 3) := by decide +kernel
theorem dX8_leadInto_59 : decode cX8_leadInto 59 = .ok (.iload_n 2, 1) := by decide +kernel
theorem dX8_leadInto_60 : decode cX8_leadInto 60 = .ok (.iconst 1, 1) := by decide +kernel
theorem dX8_leadInto_61 : decode cX8_leadInto 61 = .ok (.iadd, 1) := by decide +kernel
theorem dX8_leadInto_62 : decode cX8_leadInto 62 = .ok (.aaload, 1) := by decide +kernel
theorem dX8_leadInto_63 : decode cX8_leadInto 63 = .ok (.iload_n 3, 1) := by decide +kernel
theorem dX8_leadInto_64 : decode cX8_leadInto 64 = .ok (.iconst 1, 1) := by decide +kernel
theorem dX8_leadInto_65 : decode cX8_leadInto 65 = .ok (.isub, 1) := by decide +kernel
theorem dX8_leadInto_66 : decode cX8_leadInto 66 = .ok (.dup2, 1) := by decide +kernel
theorem dX8_leadInto_67 : decode cX8_leadInto 67 = .ok (.iaload, 1) := by decide +kernel
theorem dX8_leadInto_68 : decode cX8_leadInto 68 = .ok (.aload_n 0, 1) := by decide +kernel
theorem dX8_leadInto_69 : decode cX8_leadInto 69 = .ok (.getfield 11, 3) := by decide +kernel
theorem dX8_leadInto_72 : decode cX8_leadInto 72 = .ok (.iload_n 2, 1) := by decide +kernel
theorem dX8_leadInto_73 : decode cX8_leadInto 73 = .ok (.aaload, 1) := by decide +kernel
theorem dX8_leadInto_74 : decode cX8_leadInto 74 = .ok (.iload_n 3, 1) := by decide +kernel
theorem dX8_leadInto_75 : decode cX8_leadInto 75 = .ok (.iaload, 1) := by decide +kernel
theorem dX8_leadInto_76 : decode cX8_leadInto 76 = .ok (.iadd, 1) := by decide +kernel
theorem dX8_leadInto_77 : decode cX8_leadInto 77 = .ok (.iastore, 1) := by decide +kernel
theorem dX8_leadInto_78 : decode cX8_leadInto 78 = .ok (.iload_n 1, 1) := by decide +kernel
theorem dX8_leadInto_79 : decode cX8_leadInto 79 = .ok (.bipush 20, 2) := by decide +kernel
theorem dX8_leadInto_81 : decode cX8_leadInto 81 = .ok (.if_icmp .ge 31, 3) := by decide +kernel
theorem dX8_leadInto_84 : decode cX8_leadInto 84 = .ok (.aload_n 0, 1) := by decide +kernel
theorem dX8_leadInto_85 : decode cX8_leadInto 85 = .ok (.getfield 11, 3) := by decide +kernel
theorem dX8_leadInto_88 : decode cX8_leadInto 88 = .ok (.iload_n 2, 1) := by decide +kernel
theorem dX8_leadInto_89 : decode cX8_leadInto 89 = .ok (.iconst 1, 1) := by decide +kernel
theorem dX8_leadInto_90 : decode cX8_leadInto 90 = .ok (.iadd, 1) := by decide +kernel
theorem dX8_leadInto_91 : decode cX8_leadInto 91 = .ok (.aaload, 1) := by decide +kernel
theorem dX8_leadInto_92 : decode cX8_leadInto 92 = .ok (.bipush 9, 2) := by decide +kernel
theorem dX8_leadInto_94 : decode cX8_leadInto 94 = .ok (.iload_n 3, 1) := by decide +kernel
theorem dX8_leadInto_95 : decode cX8_leadInto 95 = .ok (.iconst 1, 1) := by decide +kernel
theorem dX8_leadInto_96 : decode cX8_leadInto 96 = .ok (.iadd, 1) := by decide +kernel
theorem dX8_leadInto_97 : decode cX8_leadInto 97 = .ok (.invokestatic 52, 3) := by decide +kernel
theorem dX8_leadInto_100 : decode cX8_leadInto 100 = .ok (.dup2, 1) := by decide +kernel
theorem dX8_leadInto_101 : decode cX8_leadInto 101 = .ok (.iaload, 1) := by decide +kernel
theorem dX8_leadInto_102 : decode cX8_leadInto 102 = .ok (.aload_n 0, 1) := by decide +kernel
theorem dX8_leadInto_103 : decode cX8_leadInto 103 = .ok (.getfield 11, 3) := by decide +kernel
theorem dX8_leadInto_106 : decode cX8_leadInto 106 = .ok (.iload_n 2, 1) := by decide +kernel
theorem dX8_leadInto_107 : decode cX8_leadInto 107 = .ok (.aaload, 1) := by decide +kernel
theorem dX8_leadInto_108 : decode cX8_leadInto 108 = .ok (.iload_n 3, 1) := by decide +kernel
theorem dX8_leadInto_109 : decode cX8_leadInto 109 = .ok (.iaload, 1) := by decide +kernel
theorem dX8_leadInto_110 : decode cX8_leadInto 110 = .ok (.iadd, 1) := by decide +kernel
theorem dX8_leadInto_111 : decode cX8_leadInto 111 = .ok (.iastore, 1) := by decide +kernel
theorem dX8_leadInto_112 : decode cX8_leadInto 112 = .ok (.iinc 3 1, 3) := by decide +kernel
theorem dX8_leadInto_115 : decode cX8_leadInto 115 = .ok (.goto (-70), 3) := by decide +kernel
theorem dX8_leadInto_118 : decode cX8_leadInto 118 = .ok (.return_, 1) := by decide +kernel
theorem dX8_leadOnward_0 : decode cX8_leadOnward 0 = .ok (.aload_n 0, 1) := by decide +kernel
theorem dX8_leadOnward_1 : decode cX8_leadOnward 1 = .ok (.getfield 16, 3) := by decide +kernel
theorem dX8_leadOnward_4 : decode cX8_leadOnward 4 = .ok (.iload_n 2, 1) := by decide +kernel
theorem dX8_leadOnward_5 : decode cX8_leadOnward 5 = .ok (.aaload, 1) := by decide +kernel
theorem dX8_leadOnward_6 : decode cX8_leadOnward 6 = .ok (.iconst 0, 1) := by decide +kernel
theorem dX8_leadOnward_7 : decode cX8_leadOnward 7 = .ok (.aload_n 0, 1) := by decide +kernel
theorem dX8_leadOnward_8 : decode cX8_leadOnward 8 = .ok (.getfield 16, 3) := by decide +kernel
theorem dX8_leadOnward_11 : decode cX8_leadOnward 11 = .ok (.iload_n 2, 1) := by decide +kernel
theorem dX8_leadOnward_12 : decode cX8_leadOnward 12 = .ok (.iconst 1, 1) := by decide +kernel
theorem dX8_leadOnward_13 : decode cX8_leadOnward 13 = .ok (.iadd, 1) := by decide +kernel
theorem dX8_leadOnward_14 : decode cX8_leadOnward 14 = .ok (.aaload, 1) := by decide +kernel
theorem dX8_leadOnward_15 : decode cX8_leadOnward 15 = .ok (.iconst 0, 1) := by decide +kernel
theorem dX8_leadOnward_16 : decode cX8_leadOnward 16 = .ok (.iaload, 1) := by decide +kernel
theorem dX8_leadOnward_17 : decode cX8_leadOnward 17 = .ok (.iastore, 1) := by decide +kernel
theorem dX8_leadOnward_18 : decode cX8_leadOnward 18 = .ok (.iconst 1, 1) := by decide +kernel
theorem dX8_leadOnward_19 : decode cX8_leadOnward 19 = .ok (.istore_n 3, 1) := by decide +kernel
theorem dX8_leadOnward_20 : decode cX8_leadOnward 20 = .ok (.iload_n 3, 1) := by decide +kernel
theorem dX8_leadOnward_21 : decode cX8_leadOnward 21 = .ok (.bipush 10, 2) := by decide +kernel
theorem dX8_leadOnward_23 : decode cX8_leadOnward 23 = .ok (.if_icmp .ge 73, 3) := by decide +kernel
theorem dX8_leadOnward_26 : decode cX8_leadOnward 26 = .ok (.iload_n 1, 1) := by decide +kernel
theorem dX8_leadOnward_27 : decode cX8_leadOnward 27 = .ok (.ifCond .le 18, 3) := by decide +kernel
theorem dX8_leadOnward_30 : decode cX8_leadOnward 30 = .ok (.aload_n 0, 1) := by decide +kernel
theorem dX8_leadOnward_31 : decode cX8_leadOnward 31 = .ok (.getfield 16, 3) := by decide +kernel
theorem dX8_leadOnward_34 : decode cX8_leadOnward 34 = .ok (.iload_n 2, 1) := by decide +kernel
theorem dX8_leadOnward_35 : decode cX8_leadOnward 35 = .ok (.iconst 1, 1) := by decide +kernel
theorem dX8_leadOnward_36 : decode cX8_leadOnward 36 = .ok (.iadd, 1) := by decide +kernel
theorem dX8_leadOnward_37 : decode cX8_leadOnward 37 = .ok (.aaload, 1) := by decide +kernel
theorem dX8_leadOnward_38 : decode cX8_leadOnward 38 = .ok (.iload_n 3, 1) := by decide +kernel
theorem dX8_leadOnward_39 : decode cX8_leadOnward 39 = .ok (.iconst 1, 1) := by decide +kernel
theorem dX8_leadOnward_40 : decode cX8_leadOnward 40 = .ok (.isub, 1) := by decide +kernel
theorem dX8_leadOnward_41 : decode cX8_leadOnward 41 = .ok (.iaload, 1) := by decide +kernel
theorem dX8_leadOnward_42 : decode cX8_leadOnward 42 = .ok (.goto 4, 3) := by decide +kernel
theorem dX8_leadOnward_45 : decode cX8_leadOnward 45 = .ok (.iconst 0, 1) := by decide +kernel
theorem dX8_leadOnward_46 : decode cX8_leadOnward 46 = .ok (.istore 4, 2) := by decide +kernel
theorem dX8_leadOnward_48 : decode cX8_leadOnward 48 = .ok (.iload_n 1, 1) := by decide +kernel
theorem dX8_leadOnward_49 : decode cX8_leadOnward 49 = .ok (.bipush 20, 2) := by decide +kernel
theorem dX8_leadOnward_51 : decode cX8_leadOnward 51 = .ok (.if_icmp .ge 23, 3) := by decide +kernel
theorem dX8_leadOnward_54 : decode cX8_leadOnward 54 = .ok (.aload_n 0, 1) := by decide +kernel
theorem dX8_leadOnward_55 : decode cX8_leadOnward 55 = .ok (.getfield 16, 3) := by decide +kernel
theorem dX8_leadOnward_58 : decode cX8_leadOnward 58 = .ok (.iload_n 2, 1) := by decide +kernel
theorem dX8_leadOnward_59 : decode cX8_leadOnward 59 = .ok (.iconst 1, 1) := by decide +kernel
theorem dX8_leadOnward_60 : decode cX8_leadOnward 60 = .ok (.iadd, 1) := by decide +kernel
theorem dX8_leadOnward_61 : decode cX8_leadOnward 61 = .ok (.aaload, 1) := by decide +kernel
theorem dX8_leadOnward_62 : decode cX8_leadOnward 62 = .ok (.bipush 9, 2) := by decide +kernel
theorem dX8_leadOnward_64 : decode cX8_leadOnward 64 = .ok (.iload_n 3, 1) := by decide +kernel
theorem dX8_leadOnward_65 : decode cX8_leadOnward 65 = .ok (.iconst 1, 1) := by decide +kernel
theorem dX8_leadOnward_66 : decode cX8_leadOnward 66 = .ok (.iadd, 1) := by decide +kernel
theorem dX8_leadOnward_67 : decode cX8_leadOnward 67 = .ok (.invokestatic 52, 3) := by decide +kernel
theorem dX8_leadOnward_70 : decode cX8_leadOnward 70 = .ok (.iaload, 1) := by decide +kernel
theorem dX8_leadOnward_71 : decode cX8_leadOnward 71 = .ok (.goto 4, 3) := by decide +kernel
theorem dX8_leadOnward_74 : decode cX8_leadOnward 74 = .ok (.iconst 0, 1) := by decide +kernel
theorem dX8_leadOnward_75 : decode cX8_leadOnward 75 = .ok (.istore 5, 2) := by decide +kernel
theorem dX8_leadOnward_77 : decode cX8_leadOnward 77 = .ok (.aload_n 0, 1) := by decide +kernel
theorem dX8_leadOnward_78 : decode cX8_leadOnward 78 = .ok (.getfield 16, 3) := by decide +kernel
theorem dX8_leadOnward_81 : decode cX8_leadOnward 81 = .ok (.iload_n 2, 1) := by decide +kernel
theorem dX8_leadOnward_82 : decode cX8_leadOnward 82 = .ok (.aaload, 1) := by decide +kernel
theorem dX8_leadOnward_83 : decode cX8_leadOnward 83 = .ok (.iload_n 3, 1) := by decide +kernel
theorem dX8_leadOnward_84 : decode cX8_leadOnward 84 = .ok (.iload 4, 2) := by decide +kernel
theorem dX8_leadOnward_86 : decode cX8_leadOnward 86 = .ok (.iload 5, 2) := by decide +kernel
theorem dX8_leadOnward_88 : decode cX8_leadOnward 88 = .ok (.iadd, 1) := by decide +kernel
theorem dX8_leadOnward_89 : decode cX8_leadOnward 89 = .ok (.iastore, 1) := by decide +kernel
theorem dX8_leadOnward_90 : decode cX8_leadOnward 90 = .ok (.iinc 3 1, 3) := by decide +kernel
theorem dX8_leadOnward_93 : decode cX8_leadOnward 93 = .ok (.goto (-73), 3) := by decide +kernel
theorem dX8_leadOnward_96 : decode cX8_leadOnward 96 = .ok (.return_, 1) := by decide +kernel
theorem dX8_canBeBehind_0 : decode cX8_canBeBehind 0 = .ok (.aload_n 0, 1) := by decide +kernel
theorem dX8_canBeBehind_1 : decode cX8_canBeBehind 1 = .ok (.getfield 11, 3) := by decide +kernel
theorem dX8_canBeBehind_4 : decode cX8_canBeBehind 4 = .ok (.iload_n 1, 1) := by decide +kernel
theorem dX8_canBeBehind_5 : decode cX8_canBeBehind 5 = .ok (.iconst 1, 1) := by decide +kernel
theorem dX8_canBeBehind_6 : decode cX8_canBeBehind 6 = .ok (.iadd, 1) := by decide +kernel
theorem dX8_canBeBehind_7 : decode cX8_canBeBehind 7 = .ok (.aaload, 1) := by decide +kernel
theorem dX8_canBeBehind_8 : decode cX8_canBeBehind 8 = .ok (.iload_n 2, 1) := by decide +kernel
theorem dX8_canBeBehind_9 : decode cX8_canBeBehind 9 = .ok (.iaload, 1) := by decide +kernel
theorem dX8_canBeBehind_10 : decode cX8_canBeBehind 10 = .ok (.ifCond .le 20, 3) := by decide +kernel
theorem dX8_canBeBehind_13 : decode cX8_canBeBehind 13 = .ok (.aload_n 0, 1) := by decide +kernel
theorem dX8_canBeBehind_14 : decode cX8_canBeBehind 14 = .ok (.getfield 16, 3) := by decide +kernel
theorem dX8_canBeBehind_17 : decode cX8_canBeBehind 17 = .ok (.iload_n 1, 1) := by decide +kernel
theorem dX8_canBeBehind_18 : decode cX8_canBeBehind 18 = .ok (.iconst 1, 1) := by decide +kernel
theorem dX8_canBeBehind_19 : decode cX8_canBeBehind 19 = .ok (.iadd, 1) := by decide +kernel
theorem dX8_canBeBehind_20 : decode cX8_canBeBehind 20 = .ok (.aaload, 1) := by decide +kernel
theorem dX8_canBeBehind_21 : decode cX8_canBeBehind 21 = .ok (.iload_n 2, 1) := by decide +kernel
theorem dX8_canBeBehind_22 : decode cX8_canBeBehind 22 = .ok (.iaload, 1) := by decide +kernel
theorem dX8_canBeBehind_23 : decode cX8_canBeBehind 23 = .ok (.ifCond .le 7, 3) := by decide +kernel
theorem dX8_canBeBehind_26 : decode cX8_canBeBehind 26 = .ok (.iconst 1, 1) := by decide +kernel
theorem dX8_canBeBehind_27 : decode cX8_canBeBehind 27 = .ok (.goto 4, 3) := by decide +kernel
theorem dX8_canBeBehind_30 : decode cX8_canBeBehind 30 = .ok (.iconst 0, 1) := by decide +kernel
theorem dX8_canBeBehind_31 : decode cX8_canBeBehind 31 = .ok (.ireturn, 1) := by decide +kernel
theorem dX8_falling_0 : decode cX8_falling 0 = .ok (.aload_n 1, 1) := by decide +kernel
theorem dX8_falling_1 : decode cX8_falling 1 = .ok (.iload_n 2, 1) := by decide +kernel
theorem dX8_falling_2 : decode cX8_falling 2 = .ok (.invokevirtual 28, 3) := by decide +kernel
theorem dX8_falling_5 : decode cX8_falling 5 = .ok (.ifCond .ne 5, 3) := by decide +kernel
theorem dX8_falling_8 : decode cX8_falling 8 = .ok (.iconst 0, 1) := by decide +kernel
theorem dX8_falling_9 : decode cX8_falling 9 = .ok (.ireturn, 1) := by decide +kernel
theorem dX8_falling_10 : decode cX8_falling 10 = .ok (.iconst 0, 1) := by decide +kernel
theorem dX8_falling_11 : decode cX8_falling 11 = .ok (.istore_n 3, 1) := by decide +kernel
theorem dX8_falling_12 : decode cX8_falling 12 = .ok (.iconst 1, 1) := by decide +kernel
theorem dX8_falling_13 : decode cX8_falling 13 = .ok (.istore 4, 2) := by decide +kernel
theorem dX8_falling_15 : decode cX8_falling 15 = .ok (.iload 4, 2) := by decide +kernel
theorem dX8_falling_17 : decode cX8_falling 17 = .ok (.bipush 10, 2) := by decide +kernel
theorem dX8_falling_19 : decode cX8_falling 19 = .ok (.if_icmp .ge 35, 3) := by decide +kernel
theorem dX8_falling_22 : decode cX8_falling 22 = .ok (.iload_n 3, 1) := by decide +kernel
theorem dX8_falling_23 : decode cX8_falling 23 = .ok (.aload_n 0, 1) := by decide +kernel
theorem dX8_falling_24 : decode cX8_falling 24 = .ok (.getfield 11, 3) := by decide +kernel
theorem dX8_falling_27 : decode cX8_falling 27 = .ok (.iload_n 2, 1) := by decide +kernel
theorem dX8_falling_28 : decode cX8_falling 28 = .ok (.aaload, 1) := by decide +kernel
theorem dX8_falling_29 : decode cX8_falling 29 = .ok (.iload 4, 2) := by decide +kernel
theorem dX8_falling_31 : decode cX8_falling 31 = .ok (.iaload, 1) := by decide +kernel
theorem dX8_falling_32 : decode cX8_falling 32 = .ok (.aload_n 0, 1) := by decide +kernel
theorem dX8_falling_33 : decode cX8_falling 33 = .ok (.getfield 16, 3) := by decide +kernel
theorem dX8_falling_36 : decode cX8_falling 36 = .ok (.iload_n 2, 1) := by decide +kernel
theorem dX8_falling_37 : decode cX8_falling 37 = .ok (.iconst 1, 1) := by decide +kernel
theorem dX8_falling_38 : decode cX8_falling 38 = .ok (.iadd, 1) := by decide +kernel
theorem dX8_falling_39 : decode cX8_falling 39 = .ok (.aaload, 1) := by decide +kernel
theorem dX8_falling_40 : decode cX8_falling 40 = .ok (.iload 4, 2) := by decide +kernel
theorem dX8_falling_42 : decode cX8_falling 42 = .ok (.iconst 1, 1) := by decide +kernel
theorem dX8_falling_43 : decode cX8_falling 43 = .ok (.isub, 1) := by decide +kernel
theorem dX8_falling_44 : decode cX8_falling 44 = .ok (.iaload, 1) := by decide +kernel
theorem dX8_falling_45 : decode cX8_falling 45 = .ok (.imul, 1) := by decide +kernel
theorem dX8_falling_46 : decode cX8_falling 46 = .ok (.iadd, 1) := by decide +kernel
theorem dX8_falling_47 : decode cX8_falling 47 = .ok (.istore_n 3, 1) := by decide +kernel
theorem dX8_falling_48 : decode cX8_falling 48 = .ok (.iinc 4 1, 3) := by decide +kernel
theorem dX8_falling_51 : decode cX8_falling 51 = .ok (.goto (-36), 3) := by decide +kernel
theorem dX8_falling_54 : decode cX8_falling 54 = .ok (.iload_n 3, 1) := by decide +kernel
theorem dX8_falling_55 : decode cX8_falling 55 = .ok (.ireturn, 1) := by decide +kernel
theorem dX8_rising_0 : decode cX8_rising 0 = .ok (.aload_n 1, 1) := by decide +kernel
theorem dX8_rising_1 : decode cX8_rising 1 = .ok (.iload_n 2, 1) := by decide +kernel
theorem dX8_rising_2 : decode cX8_rising 2 = .ok (.invokevirtual 28, 3) := by decide +kernel
theorem dX8_rising_5 : decode cX8_rising 5 = .ok (.bipush 20, 2) := by decide +kernel
theorem dX8_rising_7 : decode cX8_rising 7 = .ok (.if_icmp .ne 5, 3) := by decide +kernel
theorem dX8_rising_10 : decode cX8_rising 10 = .ok (.iconst 0, 1) := by decide +kernel
theorem dX8_rising_11 : decode cX8_rising 11 = .ok (.ireturn, 1) := by decide +kernel
theorem dX8_rising_12 : decode cX8_rising 12 = .ok (.iconst 0, 1) := by decide +kernel
theorem dX8_rising_13 : decode cX8_rising 13 = .ok (.istore_n 3, 1) := by decide +kernel
theorem dX8_rising_14 : decode cX8_rising 14 = .ok (.iconst 1, 1) := by decide +kernel
theorem dX8_rising_15 : decode cX8_rising 15 = .ok (.istore 4, 2) := by decide +kernel
theorem dX8_rising_17 : decode cX8_rising 17 = .ok (.iload 4, 2) := by decide +kernel
theorem dX8_rising_19 : decode cX8_rising 19 = .ok (.bipush 10, 2) := by decide +kernel
theorem dX8_rising_21 : decode cX8_rising 21 = .ok (.if_icmp .ge 40, 3) := by decide +kernel
theorem dX8_rising_24 : decode cX8_rising 24 = .ok (.iload_n 3, 1) := by decide +kernel
theorem dX8_rising_25 : decode cX8_rising 25 = .ok (.aload_n 0, 1) := by decide +kernel
theorem dX8_rising_26 : decode cX8_rising 26 = .ok (.getfield 11, 3) := by decide +kernel
theorem dX8_rising_29 : decode cX8_rising 29 = .ok (.iload_n 2, 1) := by decide +kernel
theorem dX8_rising_30 : decode cX8_rising 30 = .ok (.aaload, 1) := by decide +kernel
theorem dX8_rising_31 : decode cX8_rising 31 = .ok (.iload 4, 2) := by decide +kernel
theorem dX8_rising_33 : decode cX8_rising 33 = .ok (.iaload, 1) := by decide +kernel
theorem dX8_rising_34 : decode cX8_rising 34 = .ok (.aload_n 0, 1) := by decide +kernel
theorem dX8_rising_35 : decode cX8_rising 35 = .ok (.getfield 16, 3) := by decide +kernel
theorem dX8_rising_38 : decode cX8_rising 38 = .ok (.iload_n 2, 1) := by decide +kernel
theorem dX8_rising_39 : decode cX8_rising 39 = .ok (.iconst 1, 1) := by decide +kernel
theorem dX8_rising_40 : decode cX8_rising 40 = .ok (.iadd, 1) := by decide +kernel
theorem dX8_rising_41 : decode cX8_rising 41 = .ok (.aaload, 1) := by decide +kernel
theorem dX8_rising_42 : decode cX8_rising 42 = .ok (.bipush 9, 2) := by decide +kernel
theorem dX8_rising_44 : decode cX8_rising 44 = .ok (.iload 4, 2) := by decide +kernel
theorem dX8_rising_46 : decode cX8_rising 46 = .ok (.iconst 1, 1) := by decide +kernel
theorem dX8_rising_47 : decode cX8_rising 47 = .ok (.iadd, 1) := by decide +kernel
theorem dX8_rising_48 : decode cX8_rising 48 = .ok (.invokestatic 52, 3) := by decide +kernel
theorem dX8_rising_51 : decode cX8_rising 51 = .ok (.iaload, 1) := by decide +kernel
theorem dX8_rising_52 : decode cX8_rising 52 = .ok (.imul, 1) := by decide +kernel
theorem dX8_rising_53 : decode cX8_rising 53 = .ok (.iadd, 1) := by decide +kernel
theorem dX8_rising_54 : decode cX8_rising 54 = .ok (.istore_n 3, 1) := by decide +kernel
theorem dX8_rising_55 : decode cX8_rising 55 = .ok (.iinc 4 1, 3) := by decide +kernel
theorem dX8_rising_58 : decode cX8_rising 58 = .ok (.goto (-41), 3) := by decide +kernel
theorem dX8_rising_61 : decode cX8_rising 61 = .ok (.iload_n 3, 1) := by decide +kernel
theorem dX8_rising_62 : decode cX8_rising 62 = .ok (.ireturn, 1) := by decide +kernel
theorem dX9_init_0 : decode cX9_init 0 = .ok (.aload_n 0, 1) := by decide +kernel
theorem dX9_init_1 : decode cX9_init 1 = .ok (.invokespecial 3, 3) := by decide +kernel
theorem dX9_init_4 : decode cX9_init 4 = .ok (.aload_n 0, 1) := by decide +kernel
theorem dX9_init_5 : decode cX9_init 5 = .ok (.iconst 5, 1) := by decide +kernel
theorem dX9_init_6 : decode cX9_init 6 = .ok (.putfield 9, 3) := by decide +kernel
theorem dX9_init_9 : decode cX9_init 9 = .ok (.aload_n 0, 1) := by decide +kernel
theorem dX9_init_10 : decode cX9_init 10 = .ok (.bipush 10, 2) := by decide +kernel
theorem dX9_init_12 : decode cX9_init 12 = .ok (.newarray .int, 2) := by decide +kernel
theorem dX9_init_14 : decode cX9_init 14 = .ok (.putfield 15, 3) := by decide +kernel
theorem dX9_init_17 : decode cX9_init 17 = .ok (.aload_n 0, 1) := by decide +kernel
theorem dX9_init_18 : decode cX9_init 18 = .ok (.bipush 10, 2) := by decide +kernel
theorem dX9_init_20 : decode cX9_init 20 = .ok (.newarray .int, 2) := by decide +kernel
theorem dX9_init_22 : decode cX9_init 22 = .ok (.putfield 19, 3) := by decide +kernel
theorem dX9_init_25 : decode cX9_init 25 = .ok (.aload_n 0, 1) := by decide +kernel
theorem dX9_init_26 : decode cX9_init 26 = .ok (.bipush 10, 2) := by decide +kernel
theorem dX9_init_28 : decode cX9_init 28 = .ok (.newarray .int, 2) := by decide +kernel
theorem dX9_init_30 : decode cX9_init 30 = .ok (.putfield 22, 3) := by decide +kernel
theorem dX9_init_33 : decode cX9_init 33 = .ok (.aload_n 0, 1) := by decide +kernel
theorem dX9_init_34 : decode cX9_init 34 = .ok (.bipush 6, 2) := by decide +kernel
theorem dX9_init_36 : decode cX9_init 36 = .ok (.newarray .int, 2) := by decide +kernel
theorem dX9_init_38 : decode cX9_init 38 = .ok (.putfield 25, 3) := by decide +kernel
theorem dX9_init_41 : decode cX9_init 41 = .ok (.aload_n 0, 1) := by decide +kernel
theorem dX9_init_42 : decode cX9_init 42 = .ok (.bipush 6, 2) := by decide +kernel
theorem dX9_init_44 : decode cX9_init 44 = .ok (.newarray .int, 2) := by decide +kernel
theorem dX9_init_46 : decode cX9_init 46 = .ok (.putfield 28, 3) := by decide +kernel
theorem dX9_init_49 : decode cX9_init 49 = .ok (.aload_n 0, 1) := by decide +kernel
theorem dX9_init_50 : decode cX9_init 50 = .ok (.bipush 6, 2) := by decide +kernel
theorem dX9_init_52 : decode cX9_init 52 = .ok (.newarray .int, 2) := by decide +kernel
theorem dX9_init_54 : decode cX9_init 54 = .ok (.putfield 31, 3) := by decide +kernel
theorem dX9_init_57 : decode cX9_init 57 = .ok (.return_, 1) := by decide +kernel
theorem dX9_clear_0 : decode cX9_clear 0 = .ok (.aload_n 0, 1) := by decide +kernel
theorem dX9_clear_1 : decode cX9_clear 1 = .ok (.iconst 0, 1) := by decide +kernel
theorem dX9_clear_2 : decode cX9_clear 2 = .ok (.putfield 34, 3) := by decide +kernel
theorem dX9_clear_5 : decode cX9_clear 5 = .ok (.aload_n 0, 1) := by decide +kernel
theorem dX9_clear_6 : decode cX9_clear 6 = .ok (.iconst 0, 1) := by decide +kernel
theorem dX9_clear_7 : decode cX9_clear 7 = .ok (.putfield 37, 3) := by decide +kernel
theorem dX9_clear_10 : decode cX9_clear 10 = .ok (.aload_n 0, 1) := by decide +kernel
theorem dX9_clear_11 : decode cX9_clear 11 = .ok (.iconst 5, 1) := by decide +kernel
theorem dX9_clear_12 : decode cX9_clear 12 = .ok (.putfield 9, 3) := by decide +kernel
theorem dX9_clear_15 : decode cX9_clear 15 = .ok (.iconst 0, 1) := by decide +kernel
theorem dX9_clear_16 : decode cX9_clear 16 = .ok (.istore_n 1, 1) := by decide +kernel
theorem dX9_clear_17 : decode cX9_clear 17 = .ok (.iload_n 1, 1) := by decide +kernel
theorem dX9_clear_18 : decode cX9_clear 18 = .ok (.bipush 10, 2) := by decide +kernel
theorem dX9_clear_20 : decode cX9_clear 20 = .ok (.if_icmp .ge 16, 3) := by decide +kernel
theorem dX9_clear_23 : decode cX9_clear 23 = .ok (.aload_n 0, 1) := by decide +kernel
theorem dX9_clear_24 : decode cX9_clear 24 = .ok (.getfield 22, 3) := by decide +kernel
theorem dX9_clear_27 : decode cX9_clear 27 = .ok (.iload_n 1, 1) := by decide +kernel
theorem dX9_clear_28 : decode cX9_clear 28 = .ok (.iconst 0, 1) := by decide +kernel
theorem dX9_clear_29 : decode cX9_clear 29 = .ok (.iastore, 1) := by decide +kernel
theorem dX9_clear_30 : decode cX9_clear 30 = .ok (.iinc 1 1, 3) := by decide +kernel
theorem dX9_clear_33 : decode cX9_clear 33 = .ok (.goto (-16), 3) := by decide +kernel
theorem dX9_clear_36 : decode cX9_clear 36 = .ok (.return_, 1) := by decide +kernel
theorem dX9_copyOf_0 : decode cX9_copyOf 0 = .ok (.aload_n 0, 1) := by decide +kernel
theorem dX9_copyOf_1 : decode cX9_copyOf 1 = .ok (.aload_n 1, 1) := by decide +kernel
theorem dX9_copyOf_2 : decode cX9_copyOf 2 = .ok (.getfield 34, 3) := by decide +kernel
theorem dX9_copyOf_5 : decode cX9_copyOf 5 = .ok (.putfield 34, 3) := by decide +kernel
theorem dX9_copyOf_8 : decode cX9_copyOf 8 = .ok (.aload_n 0, 1) := by decide +kernel
theorem dX9_copyOf_9 : decode cX9_copyOf 9 = .ok (.aload_n 1, 1) := by decide +kernel
theorem dX9_copyOf_10 : decode cX9_copyOf 10 = .ok (.getfield 37, 3) := by decide +kernel
theorem dX9_copyOf_13 : decode cX9_copyOf 13 = .ok (.putfield 37, 3) := by decide +kernel
theorem dX9_copyOf_16 : decode cX9_copyOf 16 = .ok (.aload_n 0, 1) := by decide +kernel
theorem dX9_copyOf_17 : decode cX9_copyOf 17 = .ok (.aload_n 1, 1) := by decide +kernel
theorem dX9_copyOf_18 : decode cX9_copyOf 18 = .ok (.getfield 9, 3) := by decide +kernel
theorem dX9_copyOf_21 : decode cX9_copyOf 21 = .ok (.putfield 9, 3) := by decide +kernel
theorem dX9_copyOf_24 : decode cX9_copyOf 24 = .ok (.aload_n 1, 1) := by decide +kernel
theorem dX9_copyOf_25 : decode cX9_copyOf 25 = .ok (.getfield 15, 3) := by decide +kernel
theorem dX9_copyOf_28 : decode cX9_copyOf 28 = .ok (.iconst 0, 1) := by decide +kernel
theorem dX9_copyOf_29 : decode cX9_copyOf 29 = .ok (.aload_n 0, 1) := by decide +kernel
theorem dX9_copyOf_30 : decode cX9_copyOf 30 = .ok (.getfield 15, 3) := by decide +kernel
theorem dX9_copyOf_33 : decode cX9_copyOf 33 = .ok (.iconst 0, 1) := by decide +kernel
theorem dX9_copyOf_34 : decode cX9_copyOf 34 = .ok (.bipush 10, 2) := by decide +kernel
theorem dX9_copyOf_36 : decode cX9_copyOf 36 = .ok (.invokestatic 40, 3) := by decide +kernel
theorem dX9_copyOf_39 : decode cX9_copyOf 39 = .ok (.aload_n 1, 1) := by decide +kernel
theorem dX9_copyOf_40 : decode cX9_copyOf 40 = .ok (.getfield 19, 3) := by decide +kernel
theorem dX9_copyOf_43 : decode cX9_copyOf 43 = .ok (.iconst 0, 1) := by decide +kernel
theorem dX9_copyOf_44 : decode cX9_copyOf 44 = .ok (.aload_n 0, 1) := by decide +kernel
theorem dX9_copyOf_45 : decode cX9_copyOf 45 = .ok (.getfield 19, 3) := by decide +kernel
theorem dX9_copyOf_48 : decode cX9_copyOf 48 = .ok (.iconst 0, 1) := by decide +kernel
theorem dX9_copyOf_49 : decode cX9_copyOf 49 = .ok (.bipush 10, 2) := by decide +kernel
theorem dX9_copyOf_51 : decode cX9_copyOf 51 = .ok (.invokestatic 40, 3) := by decide +kernel
theorem dX9_copyOf_54 : decode cX9_copyOf 54 = .ok (.aload_n 1, 1) := by decide +kernel
theorem dX9_copyOf_55 : decode cX9_copyOf 55 = .ok (.getfield 22, 3) := by decide +kernel
theorem dX9_copyOf_58 : decode cX9_copyOf 58 = .ok (.iconst 0, 1) := by decide +kernel
theorem dX9_copyOf_59 : decode cX9_copyOf 59 = .ok (.aload_n 0, 1) := by decide +kernel
theorem dX9_copyOf_60 : decode cX9_copyOf 60 = .ok (.getfield 22, 3) := by decide +kernel
theorem dX9_copyOf_63 : decode cX9_copyOf 63 = .ok (.iconst 0, 1) := by decide +kernel
theorem dX9_copyOf_64 : decode cX9_copyOf 64 = .ok (.bipush 10, 2) := by decide +kernel
theorem dX9_copyOf_66 : decode cX9_copyOf 66 = .ok (.invokestatic 40, 3) := by decide +kernel
theorem dX9_copyOf_69 : decode cX9_copyOf 69 = .ok (.aload_n 1, 1) := by decide +kernel
theorem dX9_copyOf_70 : decode cX9_copyOf 70 = .ok (.getfield 25, 3) := by decide +kernel
theorem dX9_copyOf_73 : decode cX9_copyOf 73 = .ok (.iconst 0, 1) := by decide +kernel
theorem dX9_copyOf_74 : decode cX9_copyOf 74 = .ok (.aload_n 0, 1) := by decide +kernel
theorem dX9_copyOf_75 : decode cX9_copyOf 75 = .ok (.getfield 25, 3) := by decide +kernel
theorem dX9_copyOf_78 : decode cX9_copyOf 78 = .ok (.iconst 0, 1) := by decide +kernel
theorem dX9_copyOf_79 : decode cX9_copyOf 79 = .ok (.bipush 6, 2) := by decide +kernel
theorem dX9_copyOf_81 : decode cX9_copyOf 81 = .ok (.invokestatic 40, 3) := by decide +kernel
theorem dX9_copyOf_84 : decode cX9_copyOf 84 = .ok (.aload_n 1, 1) := by decide +kernel
theorem dX9_copyOf_85 : decode cX9_copyOf 85 = .ok (.getfield 28, 3) := by decide +kernel
theorem dX9_copyOf_88 : decode cX9_copyOf 88 = .ok (.iconst 0, 1) := by decide +kernel
theorem dX9_copyOf_89 : decode cX9_copyOf 89 = .ok (.aload_n 0, 1) := by decide +kernel
theorem dX9_copyOf_90 : decode cX9_copyOf 90 = .ok (.getfield 28, 3) := by decide +kernel
theorem dX9_copyOf_93 : decode cX9_copyOf 93 = .ok (.iconst 0, 1) := by decide +kernel
theorem dX9_copyOf_94 : decode cX9_copyOf 94 = .ok (.bipush 6, 2) := by decide +kernel
theorem dX9_copyOf_96 : decode cX9_copyOf 96 = .ok (.invokestatic 40, 3) := by decide +kernel
theorem dX9_copyOf_99 : decode cX9_copyOf 99 = .ok (.aload_n 1, 1) := by decide +kernel
theorem dX9_copyOf_100 : decode cX9_copyOf 100 = .ok (.getfield 31, 3) := by decide +kernel
theorem dX9_copyOf_103 : decode cX9_copyOf 103 = .ok (.iconst 0, 1) := by decide +kernel
theorem dX9_copyOf_104 : decode cX9_copyOf 104 = .ok (.aload_n 0, 1) := by decide +kernel
theorem dX9_copyOf_105 : decode cX9_copyOf 105 = .ok (.getfield 31, 3) := by decide +kernel
theorem dX9_copyOf_108 : decode cX9_copyOf 108 = .ok (.iconst 0, 1) := by decide +kernel
theorem dX9_copyOf_109 : decode cX9_copyOf 109 = .ok (.bipush 6, 2) := by decide +kernel
theorem dX9_copyOf_111 : decode cX9_copyOf 111 = .ok (.invokestatic 40, 3) := by decide +kernel
theorem dX9_copyOf_114 : decode cX9_copyOf 114 = .ok (.return_, 1) := by decide +kernel
theorem dX9_hasStretch_0 : decode cX9_hasStretch 0 = .ok (.iload_n 1, 1) := by decide +kernel
theorem dX9_hasStretch_1 : decode cX9_hasStretch 1 = .ok (.ifCond .lt 15, 3) := by decide +kernel
theorem dX9_hasStretch_4 : decode cX9_hasStretch 4 = .ok (.iload_n 1, 1) := by decide +kernel
theorem dX9_hasStretch_5 : decode cX9_hasStretch 5 = .ok (.aload_n 0, 1) := by decide +kernel
theorem dX9_hasStretch_6 : decode cX9_hasStretch 6 = .ok (.getfield 34, 3) := by decide +kernel
theorem dX9_hasStretch_9 : decode cX9_hasStretch 9 = .ok (.if_icmp .ge 7, 3) := by decide +kernel
theorem dX9_hasStretch_12 : decode cX9_hasStretch 12 = .ok (.iconst 1, 1) := by decide +kernel
theorem dX9_hasStretch_13 : decode cX9_hasStretch 13 = .ok (.goto 4, 3) := by decide +kernel
theorem dX9_hasStretch_16 : decode cX9_hasStretch 16 = .ok (.iconst 0, 1) := by decide +kernel
theorem dX9_hasStretch_17 : decode cX9_hasStretch 17 = .ok (.ireturn, 1) := by decide +kernel
theorem dX9_hasBearer_0 : decode cX9_hasBearer 0 = .ok (.iload_n 1, 1) := by decide +kernel
theorem dX9_hasBearer_1 : decode cX9_hasBearer 1 = .ok (.ifCond .lt 15, 3) := by decide +kernel
theorem dX9_hasBearer_4 : decode cX9_hasBearer 4 = .ok (.iload_n 1, 1) := by decide +kernel
theorem dX9_hasBearer_5 : decode cX9_hasBearer 5 = .ok (.aload_n 0, 1) := by decide +kernel
theorem dX9_hasBearer_6 : decode cX9_hasBearer 6 = .ok (.getfield 37, 3) := by decide +kernel
theorem dX9_hasBearer_9 : decode cX9_hasBearer 9 = .ok (.if_icmp .ge 7, 3) := by decide +kernel
theorem dX9_hasBearer_12 : decode cX9_hasBearer 12 = .ok (.iconst 1, 1) := by decide +kernel
theorem dX9_hasBearer_13 : decode cX9_hasBearer 13 = .ok (.goto 4, 3) := by decide +kernel
theorem dX9_hasBearer_16 : decode cX9_hasBearer 16 = .ok (.iconst 0, 1) := by decide +kernel
theorem dX9_hasBearer_17 : decode cX9_hasBearer 17 = .ok (.ireturn, 1) := by decide +kernel
theorem dX9_addStretch_0 : decode cX9_addStretch 0 = .ok (.aload_n 0, 1) := by decide +kernel
theorem dX9_addStretch_1 : decode cX9_addStretch 1 = .ok (.getfield 34, 3) := by decide +kernel
theorem dX9_addStretch_4 : decode cX9_addStretch 4 = .ok (.bipush 10, 2) := by decide +kernel
theorem dX9_addStretch_6 : decode cX9_addStretch 6 = .ok (.if_icmp .ge 33, 3) := by decide +kernel
theorem dX9_addStretch_9 : decode cX9_addStretch 9 = .ok (.aload_n 0, 1) := by decide +kernel
theorem dX9_addStretch_10 : decode cX9_addStretch 10 = .ok (.getfield 15, 3) := by decide +kernel
theorem dX9_addStretch_13 : decode cX9_addStretch 13 = .ok (.aload_n 0, 1) := by decide +kernel
theorem dX9_addStretch_14 : decode cX9_addStretch 14 = .ok (.getfield 34, 3) := by decide +kernel
theorem dX9_addStretch_17 : decode cX9_addStretch 17 = .ok (.iload_n 1, 1) := by decide +kernel
theorem dX9_addStretch_18 : decode cX9_addStretch 18 = .ok (.iastore, 1) := by decide +kernel
theorem dX9_addStretch_19 : decode cX9_addStretch 19 = .ok (.aload_n 0, 1) := by decide +kernel
theorem dX9_addStretch_20 : decode cX9_addStretch 20 = .ok (.getfield 19, 3) := by decide +kernel
theorem dX9_addStretch_23 : decode cX9_addStretch 23 = .ok (.aload_n 0, 1) := by decide +kernel
theorem dX9_addStretch_24 : decode cX9_addStretch 24 = .ok (.getfield 34, 3) := by decide +kernel
theorem dX9_addStretch_27 : decode cX9_addStretch 27 = .ok (.iload_n 2, 1) := by decide +kernel
theorem dX9_addStretch_28 : decode cX9_addStretch 28 = .ok (.iastore, 1) := by decide +kernel
theorem dX9_addStretch_29 : decode cX9_addStretch 29 = .ok (.aload_n 0, 1) := by decide +kernel
theorem dX9_addStretch_30 : decode cX9_addStretch 30 = .ok (.dup, 1) := by decide +kernel
theorem dX9_addStretch_31 : decode cX9_addStretch 31 = .ok (.getfield 34, 3) := by decide +kernel
theorem dX9_addStretch_34 : decode cX9_addStretch 34 = .ok (.iconst 1, 1) := by decide +kernel
theorem dX9_addStretch_35 : decode cX9_addStretch 35 = .ok (.iadd, 1) := by decide +kernel
theorem dX9_addStretch_36 : decode cX9_addStretch 36 = .ok (.putfield 34, 3) := by decide +kernel
theorem dX9_addStretch_39 : decode cX9_addStretch 39 = .ok (.return_, 1) := by decide +kernel
theorem dX9_addBearer_0 : decode cX9_addBearer 0 = .ok (.aload_n 0, 1) := by decide +kernel
theorem dX9_addBearer_1 : decode cX9_addBearer 1 = .ok (.getfield 37, 3) := by decide +kernel
theorem dX9_addBearer_4 : decode cX9_addBearer 4 = .ok (.bipush 6, 2) := by decide +kernel
theorem dX9_addBearer_6 : decode cX9_addBearer 6 = .ok (.if_icmp .ge 43, 3) := by decide +kernel
theorem dX9_addBearer_9 : decode cX9_addBearer 9 = .ok (.aload_n 0, 1) := by decide +kernel
theorem dX9_addBearer_10 : decode cX9_addBearer 10 = .ok (.getfield 25, 3) := by decide +kernel
theorem dX9_addBearer_13 : decode cX9_addBearer 13 = .ok (.aload_n 0, 1) := by decide +kernel
theorem dX9_addBearer_14 : decode cX9_addBearer 14 = .ok (.getfield 37, 3) := by decide +kernel
theorem dX9_addBearer_17 : decode cX9_addBearer 17 = .ok (.iload_n 1, 1) := by decide +kernel
theorem dX9_addBearer_18 : decode cX9_addBearer 18 = .ok (.iastore, 1) := by decide +kernel
theorem dX9_addBearer_19 : decode cX9_addBearer 19 = .ok (.aload_n 0, 1) := by decide +kernel
theorem dX9_addBearer_20 : decode cX9_addBearer 20 = .ok (.getfield 28, 3) := by decide +kernel
theorem dX9_addBearer_23 : decode cX9_addBearer 23 = .ok (.aload_n 0, 1) := by decide +kernel
theorem dX9_addBearer_24 : decode cX9_addBearer 24 = .ok (.getfield 37, 3) := by decide +kernel
theorem dX9_addBearer_27 : decode cX9_addBearer 27 = .ok (.iload_n 2, 1) := by decide +kernel
theorem dX9_addBearer_28 : decode cX9_addBearer 28 = .ok (.iastore, 1) := by decide +kernel
theorem dX9_addBearer_29 : decode cX9_addBearer 29 = .ok (.aload_n 0, 1) := by decide +kernel
theorem dX9_addBearer_30 : decode cX9_addBearer 30 = .ok (.getfield 31, 3) := by decide +kernel
theorem dX9_addBearer_33 : decode cX9_addBearer 33 = .ok (.aload_n 0, 1) := by decide +kernel
theorem dX9_addBearer_34 : decode cX9_addBearer 34 = .ok (.getfield 37, 3) := by decide +kernel
theorem dX9_addBearer_37 : decode cX9_addBearer 37 = .ok (.iload_n 3, 1) := by decide +kernel
theorem dX9_addBearer_38 : decode cX9_addBearer 38 = .ok (.iastore, 1) := by decide +kernel
theorem dX9_addBearer_39 : decode cX9_addBearer 39 = .ok (.aload_n 0, 1) := by decide +kernel
theorem dX9_addBearer_40 : decode cX9_addBearer 40 = .ok (.dup, 1) := by decide +kernel
theorem dX9_addBearer_41 : decode cX9_addBearer 41 = .ok (.getfield 37, 3) := by decide +kernel
theorem dX9_addBearer_44 : decode cX9_addBearer 44 = .ok (.iconst 1, 1) := by decide +kernel
theorem dX9_addBearer_45 : decode cX9_addBearer 45 = .ok (.iadd, 1) := by decide +kernel
theorem dX9_addBearer_46 : decode cX9_addBearer 46 = .ok (.putfield 37, 3) := by decide +kernel
theorem dX9_addBearer_49 : decode cX9_addBearer 49 = .ok (.return_, 1) := by decide +kernel
theorem dX9_canHand_0 : decode cX9_canHand 0 = .ok (.aload_n 0, 1) := by decide +kernel
theorem dX9_canHand_1 : decode cX9_canHand 1 = .ok (.iload_n 1, 1) := by decide +kernel
theorem dX9_canHand_2 : decode cX9_canHand 2 = .ok (.invokevirtual 46, 3) := by decide +kernel
theorem dX9_canHand_5 : decode cX9_canHand 5 = .ok (.ifCond .eq 29, 3) := by decide +kernel
theorem dX9_canHand_8 : decode cX9_canHand 8 = .ok (.iload_n 2, 1) := by decide +kernel
theorem dX9_canHand_9 : decode cX9_canHand 9 = .ok (.bipush (-4), 2) := by decide +kernel
theorem dX9_canHand_11 : decode cX9_canHand 11 = .ok (.if_icmp .eq 11, 3) := by decide +kernel
theorem dX9_canHand_14 : decode cX9_canHand 14 = .ok (.aload_n 0, 1) := by decide +kernel
theorem dX9_canHand_15 : decode cX9_canHand 15 = .ok (.iload_n 2, 1) := by decide +kernel
theorem dX9_canHand_16 : decode cX9_canHand 16 = .ok (.invokevirtual 50, 3) := by decide +kernel
theorem dX9_canHand_19 : decode cX9_canHand 19 = .ok (.ifCond .eq 15, 3) := by decide +kernel
theorem dX9_canHand_22 : decode cX9_canHand 22 = .ok (.aload_n 0, 1) := by decide +kernel
theorem dX9_canHand_23 : decode cX9_canHand 23 = .ok (.iload_n 3, 1) := by decide +kernel
theorem dX9_canHand_24 : decode cX9_canHand 24 = .ok (.invokevirtual 50, 3) := by decide +kernel
theorem dX9_canHand_27 : decode cX9_canHand 27 = .ok (.ifCond .eq 7, 3) := by decide +kernel
theorem dX9_canHand_30 : decode cX9_canHand 30 = .ok (.iconst 1, 1) := by decide +kernel
theorem dX9_canHand_31 : decode cX9_canHand 31 = .ok (.goto 4, 3) := by decide +kernel
theorem dX9_canHand_34 : decode cX9_canHand 34 = .ok (.iconst 0, 1) := by decide +kernel
theorem dX9_canHand_35 : decode cX9_canHand 35 = .ok (.ireturn, 1) := by decide +kernel
theorem dX9_harmBy_0 : decode cX9_harmBy 0 = .ok (.aload_n 0, 1) := by decide +kernel
theorem dX9_harmBy_1 : decode cX9_harmBy 1 = .ok (.iload_n 1, 1) := by decide +kernel
theorem dX9_harmBy_2 : decode cX9_harmBy 2 = .ok (.iload_n 2, 1) := by decide +kernel
theorem dX9_harmBy_3 : decode cX9_harmBy 3 = .ok (.iload_n 3, 1) := by decide +kernel
theorem dX9_harmBy_4 : decode cX9_harmBy 4 = .ok (.invokevirtual 53, 3) := by decide +kernel
theorem dX9_harmBy_7 : decode cX9_harmBy 7 = .ok (.ifCond .ne 5, 3) := by decide +kernel
theorem dX9_harmBy_10 : decode cX9_harmBy 10 = .ok (.iconst 0, 1) := by decide +kernel
theorem dX9_harmBy_11 : decode cX9_harmBy 11 = .ok (.ireturn, 1) := by decide +kernel
theorem dX9_harmBy_12 : decode cX9_harmBy 12 = .ok (.bipush 20, 2) := by decide +kernel
theorem dX9_harmBy_14 : decode cX9_harmBy 14 = .ok (.aload_n 0, 1) := by decide +kernel
theorem dX9_harmBy_15 : decode cX9_harmBy 15 = .ok (.iload_n 1, 1) := by decide +kernel
theorem dX9_harmBy_16 : decode cX9_harmBy 16 = .ok (.iload_n 3, 1) := by decide +kernel
theorem dX9_harmBy_17 : decode cX9_harmBy 17 = .ok (.invokevirtual 57, 3) := by decide +kernel
theorem dX9_harmBy_20 : decode cX9_harmBy 20 = .ok (.aload_n 0, 1) := by decide +kernel
theorem dX9_harmBy_21 : decode cX9_harmBy 21 = .ok (.iload_n 1, 1) := by decide +kernel
theorem dX9_harmBy_22 : decode cX9_harmBy 22 = .ok (.iload_n 3, 1) := by decide +kernel
theorem dX9_harmBy_23 : decode cX9_harmBy 23 = .ok (.invokevirtual 61, 3) := by decide +kernel
theorem dX9_harmBy_26 : decode cX9_harmBy 26 = .ok (.iadd, 1) := by decide +kernel
theorem dX9_harmBy_27 : decode cX9_harmBy 27 = .ok (.aload_n 0, 1) := by decide +kernel
theorem dX9_harmBy_28 : decode cX9_harmBy 28 = .ok (.iload_n 2, 1) := by decide +kernel
theorem dX9_harmBy_29 : decode cX9_harmBy 29 = .ok (.iload_n 3, 1) := by decide +kernel
theorem dX9_harmBy_30 : decode cX9_harmBy 30 = .ok (.invokevirtual 64, 3) := by decide +kernel
theorem dX9_harmBy_33 : decode cX9_harmBy 33 = .ok (.iadd, 1) := by decide +kernel
theorem dX9_harmBy_34 : decode cX9_harmBy 34 = .ok (.invokestatic 67, 3) := by decide +kernel
theorem dX9_harmBy_37 : decode cX9_harmBy 37 = .ok (.ireturn, 1) := by decide +kernel
theorem dX9_noiseBy_0 : decode cX9_noiseBy 0 = .ok (.aload_n 0, 1) := by decide +kernel
theorem dX9_noiseBy_1 : decode cX9_noiseBy 1 = .ok (.getfield 25, 3) := by decide +kernel
theorem dX9_noiseBy_4 : decode cX9_noiseBy 4 = .ok (.iload_n 2, 1) := by decide +kernel
theorem dX9_noiseBy_5 : decode cX9_noiseBy 5 = .ok (.iaload, 1) := by decide +kernel
theorem dX9_noiseBy_6 : decode cX9_noiseBy 6 = .ok (.iconst 1, 1) := by decide +kernel
theorem dX9_noiseBy_7 : decode cX9_noiseBy 7 = .ok (.if_icmp .ne 7, 3) := by decide +kernel
theorem dX9_noiseBy_10 : decode cX9_noiseBy 10 = .ok (.iconst 2, 1) := by decide +kernel
theorem dX9_noiseBy_11 : decode cX9_noiseBy 11 = .ok (.goto 18, 3) := by decide +kernel
theorem dX9_noiseBy_14 : decode cX9_noiseBy 14 = .ok (.aload_n 0, 1) := by decide +kernel
theorem dX9_noiseBy_15 : decode cX9_noiseBy 15 = .ok (.getfield 25, 3) := by decide +kernel
theorem dX9_noiseBy_18 : decode cX9_noiseBy 18 = .ok (.iload_n 2, 1) := by decide +kernel
theorem dX9_noiseBy_19 : decode cX9_noiseBy 19 = .ok (.iaload, 1) := by decide +kernel
theorem dX9_noiseBy_20 : decode cX9_noiseBy 20 = .ok (.iconst 3, 1) := by decide +kernel
theorem dX9_noiseBy_21 : decode cX9_noiseBy 21 = .ok (.if_icmp .ne 7, 3) := by decide +kernel
theorem dX9_noiseBy_24 : decode cX9_noiseBy 24 = .ok (.iconst 1, 1) := by decide +kernel
theorem dX9_noiseBy_25 : decode cX9_noiseBy 25 = .ok (.goto 4, 3) := by decide +kernel
theorem dX9_noiseBy_28 : decode cX9_noiseBy 28 = .ok (.iconst 0, 1) := by decide +kernel
theorem dX9_noiseBy_29 : decode cX9_noiseBy 29 = .ok (.istore_n 3, 1) := by decide +kernel
theorem dX9_noiseBy_30 : decode cX9_noiseBy 30 = .ok (.iconst 0, 1) := by decide +kernel
theorem dX9_noiseBy_31 : decode cX9_noiseBy 31 = .ok (.aload_n 0, 1) := by decide +kernel
theorem dX9_noiseBy_32 : decode cX9_noiseBy 32 = .ok (.getfield 15, 3) := by decide +kernel
theorem dX9_noiseBy_35 : decode cX9_noiseBy 35 = .ok (.iload_n 1, 1) := by decide +kernel
theorem dX9_noiseBy_36 : decode cX9_noiseBy 36 = .ok (.iaload, 1) := by decide +kernel
theorem dX9_noiseBy_37 : decode cX9_noiseBy 37 = .ok (.iload_n 3, 1) := by decide +kernel
theorem dX9_noiseBy_38 : decode cX9_noiseBy 38 = .ok (.isub, 1) := by decide +kernel
theorem dX9_noiseBy_39 : decode cX9_noiseBy 39 = .ok (.invokestatic 72, 3) := by decide +kernel
theorem dX9_noiseBy_42 : decode cX9_noiseBy 42 = .ok (.ireturn, 1) := by decide +kernel
theorem dX9_coldBy_0 : decode cX9_coldBy 0 = .ok (.aload_n 0, 1) := by decide +kernel
theorem dX9_coldBy_1 : decode cX9_coldBy 1 = .ok (.getfield 25, 3) := by decide +kernel
theorem dX9_coldBy_4 : decode cX9_coldBy 4 = .ok (.iload_n 2, 1) := by decide +kernel
theorem dX9_coldBy_5 : decode cX9_coldBy 5 = .ok (.iaload, 1) := by decide +kernel
theorem dX9_coldBy_6 : decode cX9_coldBy 6 = .ok (.iconst 2, 1) := by decide +kernel
theorem dX9_coldBy_7 : decode cX9_coldBy 7 = .ok (.if_icmp .ne 17, 3) := by decide +kernel
theorem dX9_coldBy_10 : decode cX9_coldBy 10 = .ok (.aload_n 0, 1) := by decide +kernel
theorem dX9_coldBy_11 : decode cX9_coldBy 11 = .ok (.getfield 19, 3) := by decide +kernel
theorem dX9_coldBy_14 : decode cX9_coldBy 14 = .ok (.iload_n 1, 1) := by decide +kernel
theorem dX9_coldBy_15 : decode cX9_coldBy 15 = .ok (.iaload, 1) := by decide +kernel
theorem dX9_coldBy_16 : decode cX9_coldBy 16 = .ok (.iconst 5, 1) := by decide +kernel
theorem dX9_coldBy_17 : decode cX9_coldBy 17 = .ok (.if_icmp .lt 7, 3) := by decide +kernel
theorem dX9_coldBy_20 : decode cX9_coldBy 20 = .ok (.iconst 1, 1) := by decide +kernel
theorem dX9_coldBy_21 : decode cX9_coldBy 21 = .ok (.goto 4, 3) := by decide +kernel
theorem dX9_coldBy_24 : decode cX9_coldBy 24 = .ok (.iconst 0, 1) := by decide +kernel
theorem dX9_coldBy_25 : decode cX9_coldBy 25 = .ok (.istore_n 3, 1) := by decide +kernel
theorem dX9_coldBy_26 : decode cX9_coldBy 26 = .ok (.iconst 0, 1) := by decide +kernel
theorem dX9_coldBy_27 : decode cX9_coldBy 27 = .ok (.aload_n 0, 1) := by decide +kernel
theorem dX9_coldBy_28 : decode cX9_coldBy 28 = .ok (.getfield 19, 3) := by decide +kernel
theorem dX9_coldBy_31 : decode cX9_coldBy 31 = .ok (.iload_n 1, 1) := by decide +kernel
theorem dX9_coldBy_32 : decode cX9_coldBy 32 = .ok (.iaload, 1) := by decide +kernel
theorem dX9_coldBy_33 : decode cX9_coldBy 33 = .ok (.aload_n 0, 1) := by decide +kernel
theorem dX9_coldBy_34 : decode cX9_coldBy 34 = .ok (.getfield 31, 3) := by decide +kernel
theorem dX9_coldBy_37 : decode cX9_coldBy 37 = .ok (.iload_n 2, 1) := by decide +kernel
theorem dX9_coldBy_38 : decode cX9_coldBy 38 = .ok (.iaload, 1) := by decide +kernel
theorem dX9_coldBy_39 : decode cX9_coldBy 39 = .ok (.isub, 1) := by decide +kernel
theorem dX9_coldBy_40 : decode cX9_coldBy 40 = .ok (.invokestatic 72, 3) := by decide +kernel
theorem dX9_coldBy_43 : decode cX9_coldBy 43 = .ok (.iload_n 3, 1) := by decide +kernel
theorem dX9_coldBy_44 : decode cX9_coldBy 44 = .ok (.iadd, 1) := by decide +kernel
theorem dX9_coldBy_45 : decode cX9_coldBy 45 = .ok (.ireturn, 1) := by decide +kernel
theorem dX9_joltBy_0 : decode cX9_joltBy 0 = .ok (.iload_n 1, 1) := by decide +kernel
theorem dX9_joltBy_1 : decode cX9_joltBy 1 = .ok (.bipush (-4), 2) := by decide +kernel
theorem dX9_joltBy_3 : decode cX9_joltBy 3 = .ok (.if_icmp .eq 28, 3) := by decide +kernel
theorem dX9_joltBy_6 : decode cX9_joltBy 6 = .ok (.iload_n 1, 1) := by decide +kernel
theorem dX9_joltBy_7 : decode cX9_joltBy 7 = .ok (.iload_n 2, 1) := by decide +kernel
theorem dX9_joltBy_8 : decode cX9_joltBy 8 = .ok (.if_icmp .eq 23, 3) := by decide +kernel
theorem dX9_joltBy_11 : decode cX9_joltBy 11 = .ok (.aload_n 0, 1) := by decide +kernel
theorem dX9_joltBy_12 : decode cX9_joltBy 12 = .ok (.getfield 25, 3) := by decide +kernel
theorem dX9_joltBy_15 : decode cX9_joltBy 15 = .ok (.iload_n 1, 1) := by decide +kernel
theorem dX9_joltBy_16 : decode cX9_joltBy 16 = .ok (.iaload, 1) := by decide +kernel
theorem dX9_joltBy_17 : decode cX9_joltBy 17 = .ok (.iconst 4, 1) := by decide +kernel
theorem dX9_joltBy_18 : decode cX9_joltBy 18 = .ok (.if_icmp .ne 15, 3) := by decide +kernel
theorem dX9_joltBy_21 : decode cX9_joltBy 21 = .ok (.aload_n 0, 1) := by decide +kernel
theorem dX9_joltBy_22 : decode cX9_joltBy 22 = .ok (.getfield 25, 3) := by decide +kernel
theorem dX9_joltBy_25 : decode cX9_joltBy 25 = .ok (.iload_n 2, 1) := by decide +kernel
theorem dX9_joltBy_26 : decode cX9_joltBy 26 = .ok (.iaload, 1) := by decide +kernel
theorem dX9_joltBy_27 : decode cX9_joltBy 27 = .ok (.iconst 4, 1) := by decide +kernel
theorem dX9_joltBy_28 : decode cX9_joltBy 28 = .ok (.if_icmp .ne 5, 3) := by decide +kernel
theorem dX9_joltBy_31 : decode cX9_joltBy 31 = .ok (.iconst 0, 1) := by decide +kernel
theorem dX9_joltBy_32 : decode cX9_joltBy 32 = .ok (.ireturn, 1) := by decide +kernel
theorem dX9_joltBy_33 : decode cX9_joltBy 33 = .ok (.aload_n 0, 1) := by decide +kernel
theorem dX9_joltBy_34 : decode cX9_joltBy 34 = .ok (.getfield 28, 3) := by decide +kernel
theorem dX9_joltBy_37 : decode cX9_joltBy 37 = .ok (.iload_n 1, 1) := by decide +kernel
theorem dX9_joltBy_38 : decode cX9_joltBy 38 = .ok (.iaload, 1) := by decide +kernel
theorem dX9_joltBy_39 : decode cX9_joltBy 39 = .ok (.aload_n 0, 1) := by decide +kernel
theorem dX9_joltBy_40 : decode cX9_joltBy 40 = .ok (.getfield 28, 3) := by decide +kernel
theorem dX9_joltBy_43 : decode cX9_joltBy 43 = .ok (.iload_n 2, 1) := by decide +kernel
theorem dX9_joltBy_44 : decode cX9_joltBy 44 = .ok (.iaload, 1) := by decide +kernel
theorem dX9_joltBy_45 : decode cX9_joltBy 45 = .ok (.isub, 1) := by decide +kernel
theorem dX9_joltBy_46 : decode cX9_joltBy 46 = .ok (.invokestatic 75, 3) := by decide +kernel
theorem dX9_joltBy_49 : decode cX9_joltBy 49 = .ok (.istore_n 3, 1) := by decide +kernel
theorem dX9_joltBy_50 : decode cX9_joltBy 50 = .ok (.aload_n 0, 1) := by decide +kernel
theorem dX9_joltBy_51 : decode cX9_joltBy 51 = .ok (.getfield 25, 3) := by decide +kernel
theorem dX9_joltBy_54 : decode cX9_joltBy 54 = .ok (.iload_n 2, 1) := by decide +kernel
theorem dX9_joltBy_55 : decode cX9_joltBy 55 = .ok (.iaload, 1) := by decide +kernel
theorem dX9_joltBy_56 : decode cX9_joltBy 56 = .ok (.iconst 5, 1) := by decide +kernel
theorem dX9_joltBy_57 : decode cX9_joltBy 57 = .ok (.if_icmp .ne 9, 3) := by decide +kernel
theorem dX9_joltBy_60 : decode cX9_joltBy 60 = .ok (.iload_n 3, 1) := by decide +kernel
theorem dX9_joltBy_61 : decode cX9_joltBy 61 = .ok (.iconst 2, 1) := by decide +kernel
theorem dX9_joltBy_62 : decode cX9_joltBy 62 = .ok (.idiv, 1) := by decide +kernel
theorem dX9_joltBy_63 : decode cX9_joltBy 63 = .ok (.goto 4, 3) := by decide +kernel
theorem dX9_joltBy_66 : decode cX9_joltBy 66 = .ok (.iload_n 3, 1) := by decide +kernel
theorem dX9_joltBy_67 : decode cX9_joltBy 67 = .ok (.ireturn, 1) := by decide +kernel
theorem dX9_harmInOrder_0 : decode cX9_harmInOrder 0 = .ok (.aload_n 0, 1) := by decide +kernel
theorem dX9_harmInOrder_1 : decode cX9_harmInOrder 1 = .ok (.iload_n 1, 1) := by decide +kernel
theorem dX9_harmInOrder_2 : decode cX9_harmInOrder 2 = .ok (.invokevirtual 46, 3) := by decide +kernel
theorem dX9_harmInOrder_5 : decode cX9_harmInOrder 5 = .ok (.ifCond .ne 5, 3) := by decide +kernel
theorem dX9_harmInOrder_8 : decode cX9_harmInOrder 8 = .ok (.iconst 0, 1) := by decide +kernel
theorem dX9_harmInOrder_9 : decode cX9_harmInOrder 9 = .ok (.ireturn, 1) := by decide +kernel
theorem dX9_harmInOrder_10 : decode cX9_harmInOrder 10 = .ok (.aload_n 0, 1) := by decide +kernel
theorem dX9_harmInOrder_11 : decode cX9_harmInOrder 11 = .ok (.iload_n 1, 1) := by decide +kernel
theorem dX9_harmInOrder_12 : decode cX9_harmInOrder 12 = .ok (.iload_n 1, 1) := by decide +kernel
theorem dX9_harmInOrder_13 : decode cX9_harmInOrder 13 = .ok (.ifCond .ne 8, 3) := by decide +kernel
theorem dX9_harmInOrder_16 : decode cX9_harmInOrder 16 = .ok (.bipush (-4), 2) := by decide +kernel
theorem dX9_harmInOrder_18 : decode cX9_harmInOrder 18 = .ok (.goto 11, 3) := by decide +kernel
theorem dX9_harmInOrder_21 : decode cX9_harmInOrder 21 = .ok (.aload_n 0, 1) := by decide +kernel
theorem dX9_harmInOrder_22 : decode cX9_harmInOrder 22 = .ok (.getfield 22, 3) := by decide +kernel
theorem dX9_harmInOrder_25 : decode cX9_harmInOrder 25 = .ok (.iload_n 1, 1) := by decide +kernel
theorem dX9_harmInOrder_26 : decode cX9_harmInOrder 26 = .ok (.iconst 1, 1) := by decide +kernel
theorem dX9_harmInOrder_27 : decode cX9_harmInOrder 27 = .ok (.isub, 1) := by decide +kernel
theorem dX9_harmInOrder_28 : decode cX9_harmInOrder 28 = .ok (.iaload, 1) := by decide +kernel
theorem dX9_harmInOrder_29 : decode cX9_harmInOrder 29 = .ok (.aload_n 0, 1) := by decide +kernel
theorem dX9_harmInOrder_30 : decode cX9_harmInOrder 30 = .ok (.getfield 22, 3) := by decide +kernel
theorem dX9_harmInOrder_33 : decode cX9_harmInOrder 33 = .ok (.iload_n 1, 1) := by decide +kernel
theorem dX9_harmInOrder_34 : decode cX9_harmInOrder 34 = .ok (.iaload, 1) := by decide +kernel
theorem dX9_harmInOrder_35 : decode cX9_harmInOrder 35 = .ok (.invokevirtual 79, 3) := by decide +kernel
theorem dX9_harmInOrder_38 : decode cX9_harmInOrder 38 = .ok (.ireturn, 1) := by decide +kernel
theorem dX9_exchange_0 : decode cX9_exchange 0 = .ok (.aload_n 0, 1) := by decide +kernel
theorem dX9_exchange_1 : decode cX9_exchange 1 = .ok (.iload_n 1, 1) := by decide +kernel
theorem dX9_exchange_2 : decode cX9_exchange 2 = .ok (.invokevirtual 46, 3) := by decide +kernel
theorem dX9_exchange_5 : decode cX9_exchange 5 = .ok (.ifCond .eq 37, 3) := by decide +kernel
theorem dX9_exchange_8 : decode cX9_exchange 8 = .ok (.aload_n 0, 1) := by decide +kernel
theorem dX9_exchange_9 : decode cX9_exchange 9 = .ok (.iload_n 2, 1) := by decide +kernel
theorem dX9_exchange_10 : decode cX9_exchange 10 = .ok (.invokevirtual 46, 3) := by decide +kernel
theorem dX9_exchange_13 : decode cX9_exchange 13 = .ok (.ifCond .eq 29, 3) := by decide +kernel
theorem dX9_exchange_16 : decode cX9_exchange 16 = .ok (.aload_n 0, 1) := by decide +kernel
theorem dX9_exchange_17 : decode cX9_exchange 17 = .ok (.getfield 22, 3) := by decide +kernel
theorem dX9_exchange_20 : decode cX9_exchange 20 = .ok (.iload_n 1, 1) := by decide +kernel
theorem dX9_exchange_21 : decode cX9_exchange 21 = .ok (.iaload, 1) := by decide +kernel
theorem dX9_exchange_22 : decode cX9_exchange 22 = .ok (.istore_n 3, 1) := by decide +kernel
theorem dX9_exchange_23 : decode cX9_exchange 23 = .ok (.aload_n 0, 1) := by decide +kernel
theorem dX9_exchange_24 : decode cX9_exchange 24 = .ok (.getfield 22, 3) := by decide +kernel
theorem dX9_exchange_27 : decode cX9_exchange 27 = .ok (.iload_n 1, 1) := by decide +kernel
theorem dX9_exchange_28 : decode cX9_exchange 28 = .ok (.aload_n 0, 1) := by decide +kernel
theorem dX9_exchange_29 : decode cX9_exchange 29 = .ok (.getfield 22, 3) := by decide +kernel
theorem dX9_exchange_32 : decode cX9_exchange 32 = .ok (.iload_n 2, 1) := by decide +kernel
theorem dX9_exchange_33 : decode cX9_exchange 33 = .ok (.iaload, 1) := by decide +kernel
theorem dX9_exchange_34 : decode cX9_exchange 34 = .ok (.iastore, 1) := by decide +kernel
theorem dX9_exchange_35 : decode cX9_exchange 35 = .ok (.aload_n 0, 1) := by decide +kernel
theorem dX9_exchange_36 : decode cX9_exchange 36 = .ok (.getfield 22, 3) := by decide +kernel
theorem dX9_exchange_39 : decode cX9_exchange 39 = .ok (.iload_n 2, 1) := by decide +kernel
theorem dX9_exchange_40 : decode cX9_exchange 40 = .ok (.iload_n 3, 1) := by decide +kernel
theorem dX9_exchange_41 : decode cX9_exchange 41 = .ok (.iastore, 1) := by decide +kernel
theorem dX9_exchange_42 : decode cX9_exchange 42 = .ok (.return_, 1) := by decide +kernel
theorem dX9_handOvers_0 : decode cX9_handOvers 0 = .ok (.iconst 0, 1) := by decide +kernel
theorem dX9_handOvers_1 : decode cX9_handOvers 1 = .ok (.istore_n 1, 1) := by decide +kernel
theorem dX9_handOvers_2 : decode cX9_handOvers 2 = .ok (.iconst 1, 1) := by decide +kernel
theorem dX9_handOvers_3 : decode cX9_handOvers 3 = .ok (.istore_n 2, 1) := by decide +kernel
theorem dX9_handOvers_4 : decode cX9_handOvers 4 = .ok (.iload_n 2, 1) := by decide +kernel
theorem dX9_handOvers_5 : decode cX9_handOvers 5 = .ok (.aload_n 0, 1) := by decide +kernel
theorem dX9_handOvers_6 : decode cX9_handOvers 6 = .ok (.getfield 34, 3) := by decide +kernel
theorem dX9_handOvers_9 : decode cX9_handOvers 9 = .ok (.if_icmp .ge 29, 3) := by decide +kernel
theorem dX9_handOvers_12 : decode cX9_handOvers 12 = .ok (.aload_n 0, 1) := by decide +kernel
theorem dX9_handOvers_13 : decode cX9_handOvers 13 = .ok (.getfield 22, 3) := by decide +kernel
theorem dX9_handOvers_16 : decode cX9_handOvers 16 = .ok (.iload_n 2, 1) := by decide +kernel
theorem dX9_handOvers_17 : decode cX9_handOvers 17 = .ok (.iaload, 1) := by decide +kernel
theorem dX9_handOvers_18 : decode cX9_handOvers 18 = .ok (.aload_n 0, 1) := by decide +kernel
theorem dX9_handOvers_19 : decode cX9_handOvers 19 = .ok (.getfield 22, 3) := by decide +kernel
theorem dX9_handOvers_22 : decode cX9_handOvers 22 = .ok (.iload_n 2, 1) := by decide +kernel
theorem dX9_handOvers_23 : decode cX9_handOvers 23 = .ok (.iconst 1, 1) := by decide +kernel
theorem dX9_handOvers_24 : decode cX9_handOvers 24 = .ok (.isub, 1) := by decide +kernel
theorem dX9_handOvers_25 : decode cX9_handOvers 25 = .ok (.iaload, 1) := by decide +kernel
theorem dX9_handOvers_26 : decode cX9_handOvers 26 = .ok (.if_icmp .eq 6, 3) := by decide +kernel
theorem dX9_handOvers_29 : decode cX9_handOvers 29 = .ok (.iinc 1 1, 3) := by decide +kernel
theorem dX9_handOvers_32 : decode cX9_handOvers 32 = .ok (.iinc 2 1, 3) := by decide +kernel
theorem dX9_handOvers_35 : decode cX9_handOvers 35 = .ok (.goto (-31), 3) := by decide +kernel
theorem dX9_handOvers_38 : decode cX9_handOvers 38 = .ok (.iload_n 1, 1) := by decide +kernel
theorem dX9_handOvers_39 : decode cX9_handOvers 39 = .ok (.ireturn, 1) := by decide +kernel
theorem dJ0_length_8abf5_0 : decode cJ0_length_8abf5 0 = .ok (.aload_n 0, 1) := by decide +kernel
theorem dJ0_length_8abf5_1 : decode cJ0_length_8abf5 1 = .ok (.getfield 9, 3) := by decide +kernel
theorem dJ0_length_8abf5_4 : decode cJ0_length_8abf5 4 = .ok (.arraylength, 1) := by decide +kernel
theorem dJ0_length_8abf5_5 : decode cJ0_length_8abf5 5 = .ok (.aload_n 0, 1) := by decide +kernel
theorem dJ0_length_8abf5_6 : decode cJ0_length_8abf5 6 = .ok (.invokevirtual 335, 3) := by decide +kernel
theorem dJ0_length_8abf5_9 : decode cJ0_length_8abf5 9 = .ok (.ishr, 1) := by decide +kernel
theorem dJ0_length_8abf5_10 : decode cJ0_length_8abf5 10 = .ok (.ireturn, 1) := by decide +kernel
theorem dJ0_charAt_5068e_0 : decode cJ0_charAt_5068e 0 = .ok (.aload_n 0, 1) := by decide +kernel
theorem dJ0_charAt_5068e_1 : decode cJ0_charAt_5068e 1 = .ok (.invokevirtual 492, 3) := by decide +kernel
theorem dJ0_charAt_5068e_4 : decode cJ0_charAt_5068e 4 = .ok (.ifCond .eq 12, 3) := by decide +kernel
theorem dJ0_charAt_5068e_7 : decode cJ0_charAt_5068e 7 = .ok (.aload_n 0, 1) := by decide +kernel
theorem dJ0_charAt_5068e_8 : decode cJ0_charAt_5068e 8 = .ok (.getfield 9, 3) := by decide +kernel
theorem dJ0_charAt_5068e_11 : decode cJ0_charAt_5068e 11 = .ok (.iload_n 1, 1) := by decide +kernel
theorem dJ0_charAt_5068e_12 : decode cJ0_charAt_5068e 12 = .ok (.invokestatic 495, 3) := by decide +kernel
theorem dJ0_charAt_5068e_15 : decode cJ0_charAt_5068e 15 = .ok (.ireturn, 1) := by decide +kernel
theorem dJ0_coder_7d493_0 : decode cJ0_coder_7d493 0 = .ok (.getstatic 38, 3) := by decide +kernel
theorem dJ0_coder_7d493_3 : decode cJ0_coder_7d493 3 = .ok (.ifCond .eq 10, 3) := by decide +kernel
theorem dJ0_coder_7d493_6 : decode cJ0_coder_7d493 6 = .ok (.aload_n 0, 1) := by decide +kernel
theorem dJ0_coder_7d493_7 : decode cJ0_coder_7d493 7 = .ok (.getfield 15, 3) := by decide +kernel
theorem dJ0_coder_7d493_10 : decode cJ0_coder_7d493 10 = .ok (.goto 4, 3) := by decide +kernel
theorem dJ0_coder_7d493_14 : decode cJ0_coder_7d493 14 = .ok (.ireturn, 1) := by decide +kernel
theorem dJ0_isLatin1_aae02_0 : decode cJ0_isLatin1_aae02 0 = .ok (.getstatic 38, 3) := by decide +kernel
theorem dJ0_isLatin1_aae02_3 : decode cJ0_isLatin1_aae02 3 = .ok (.ifCond .eq 14, 3) := by decide +kernel
theorem dJ0_isLatin1_aae02_6 : decode cJ0_isLatin1_aae02 6 = .ok (.aload_n 0, 1) := by decide +kernel
theorem dJ0_isLatin1_aae02_7 : decode cJ0_isLatin1_aae02 7 = .ok (.getfield 15, 3) := by decide +kernel
theorem dJ0_isLatin1_aae02_10 : decode cJ0_isLatin1_aae02 10 = .ok (.ifCond .ne 7, 3) := by decide +kernel
theorem dJ0_isLatin1_aae02_13 : decode cJ0_isLatin1_aae02 13 = .ok (.iconst 1, 1) := by decide +kernel
theorem dJ0_isLatin1_aae02_14 : decode cJ0_isLatin1_aae02 14 = .ok (.goto 4, 3) := by decide +kernel
theorem dJ0_isLatin1_aae02_18 : decode cJ0_isLatin1_aae02 18 = .ok (.ireturn, 1) := by decide +kernel
theorem dJ0_checkIndex_df160_0 : decode cJ0_checkIndex_df160 0 = .ok (.iload_n 0, 1) := by decide +kernel
theorem dJ0_checkIndex_df160_1 : decode cJ0_checkIndex_df160 1 = .ok (.iload_n 1, 1) := by decide +kernel
theorem dJ0_checkIndex_df160_2 : decode cJ0_checkIndex_df160 2 = .ok (.getstatic 1053, 3) := by decide +kernel
theorem dJ0_checkIndex_df160_5 : decode cJ0_checkIndex_df160 5 = .ok (.invokestatic 1059, 3) := by decide +kernel
theorem dJ0_checkIndex_df160_8 : decode cJ0_checkIndex_df160 8 = .ok (.pop, 1) := by decide +kernel
theorem dJ0_checkIndex_df160_9 : decode cJ0_checkIndex_df160 9 = .ok (.return_, 1) := by decide +kernel
theorem dJ1_charAt_3b067_0 : decode cJ1_charAt_3b067 0 = .ok (.iload_n 1, 1) := by decide +kernel
theorem dJ1_charAt_3b067_1 : decode cJ1_charAt_3b067 1 = .ok (.aload_n 0, 1) := by decide +kernel
theorem dJ1_charAt_3b067_2 : decode cJ1_charAt_3b067 2 = .ok (.arraylength, 1) := by decide +kernel
theorem dJ1_charAt_3b067_3 : decode cJ1_charAt_3b067 3 = .ok (.invokestatic 9, 3) := by decide +kernel
theorem dJ1_charAt_3b067_6 : decode cJ1_charAt_3b067 6 = .ok (.aload_n 0, 1) := by decide +kernel
theorem dJ1_charAt_3b067_7 : decode cJ1_charAt_3b067 7 = .ok (.iload_n 1, 1) := by decide +kernel
theorem dJ1_charAt_3b067_8 : decode cJ1_charAt_3b067 8 = .ok (.baload, 1) := by decide +kernel
theorem dJ1_charAt_3b067_9 : decode cJ1_charAt_3b067 9 = .ok (.sipush 255, 3) := by decide +kernel
theorem dJ1_charAt_3b067_12 : decode cJ1_charAt_3b067 12 = .ok (.iand, 1) := by decide +kernel
theorem dJ1_charAt_3b067_13 : decode cJ1_charAt_3b067 13 = .ok (.i2c, 1) := by decide +kernel
theorem dJ1_charAt_3b067_14 : decode cJ1_charAt_3b067 14 = .ok (.ireturn, 1) := by decide +kernel
theorem dJ3_checkIndex_8e157_0 : decode cJ3_checkIndex_8e157 0 = .ok (.iload_n 0, 1) := by decide +kernel
theorem dJ3_checkIndex_8e157_1 : decode cJ3_checkIndex_8e157 1 = .ok (.ifCond .lt 8, 3) := by decide +kernel
theorem dJ3_checkIndex_8e157_4 : decode cJ3_checkIndex_8e157 4 = .ok (.iload_n 0, 1) := by decide +kernel
theorem dJ3_checkIndex_8e157_5 : decode cJ3_checkIndex_8e157 5 = .ok (.iload_n 1, 1) := by decide +kernel
theorem dJ3_checkIndex_8e157_6 : decode cJ3_checkIndex_8e157 6 = .ok (.if_icmp .lt 10, 3) := by decide +kernel
theorem dJ3_checkIndex_8e157_16 : decode cJ3_checkIndex_8e157 16 = .ok (.iload_n 0, 1) := by decide +kernel
theorem dJ3_checkIndex_8e157_17 : decode cJ3_checkIndex_8e157 17 = .ok (.ireturn, 1) := by decide +kernel
theorem dJ6_bitCount_0f7a4_0 : decode cJ6_bitCount_0f7a4 0 = .ok (.iload_n 0, 1) := by decide +kernel
theorem dJ6_bitCount_0f7a4_1 : decode cJ6_bitCount_0f7a4 1 = .ok (.iload_n 0, 1) := by decide +kernel
theorem dJ6_bitCount_0f7a4_2 : decode cJ6_bitCount_0f7a4 2 = .ok (.iconst 1, 1) := by decide +kernel
theorem dJ6_bitCount_0f7a4_3 : decode cJ6_bitCount_0f7a4 3 = .ok (.iushr, 1) := by decide +kernel
theorem dJ6_bitCount_0f7a4_4 : decode cJ6_bitCount_0f7a4 4 = .ok (.ldc_w 265, 3) := by decide +kernel
theorem dJ6_bitCount_0f7a4_7 : decode cJ6_bitCount_0f7a4 7 = .ok (.iand, 1) := by decide +kernel
theorem dJ6_bitCount_0f7a4_8 : decode cJ6_bitCount_0f7a4 8 = .ok (.isub, 1) := by decide +kernel
theorem dJ6_bitCount_0f7a4_9 : decode cJ6_bitCount_0f7a4 9 = .ok (.istore_n 0, 1) := by decide +kernel
theorem dJ6_bitCount_0f7a4_10 : decode cJ6_bitCount_0f7a4 10 = .ok (.iload_n 0, 1) := by decide +kernel
theorem dJ6_bitCount_0f7a4_11 : decode cJ6_bitCount_0f7a4 11 = .ok (.ldc_w 266, 3) := by decide +kernel
theorem dJ6_bitCount_0f7a4_14 : decode cJ6_bitCount_0f7a4 14 = .ok (.iand, 1) := by decide +kernel
theorem dJ6_bitCount_0f7a4_15 : decode cJ6_bitCount_0f7a4 15 = .ok (.iload_n 0, 1) := by decide +kernel
theorem dJ6_bitCount_0f7a4_16 : decode cJ6_bitCount_0f7a4 16 = .ok (.iconst 2, 1) := by decide +kernel
theorem dJ6_bitCount_0f7a4_17 : decode cJ6_bitCount_0f7a4 17 = .ok (.iushr, 1) := by decide +kernel
theorem dJ6_bitCount_0f7a4_18 : decode cJ6_bitCount_0f7a4 18 = .ok (.ldc_w 266, 3) := by decide +kernel
theorem dJ6_bitCount_0f7a4_21 : decode cJ6_bitCount_0f7a4 21 = .ok (.iand, 1) := by decide +kernel
theorem dJ6_bitCount_0f7a4_22 : decode cJ6_bitCount_0f7a4 22 = .ok (.iadd, 1) := by decide +kernel
theorem dJ6_bitCount_0f7a4_23 : decode cJ6_bitCount_0f7a4 23 = .ok (.istore_n 0, 1) := by decide +kernel
theorem dJ6_bitCount_0f7a4_24 : decode cJ6_bitCount_0f7a4 24 = .ok (.iload_n 0, 1) := by decide +kernel
theorem dJ6_bitCount_0f7a4_25 : decode cJ6_bitCount_0f7a4 25 = .ok (.iload_n 0, 1) := by decide +kernel
theorem dJ6_bitCount_0f7a4_26 : decode cJ6_bitCount_0f7a4 26 = .ok (.iconst 4, 1) := by decide +kernel
theorem dJ6_bitCount_0f7a4_27 : decode cJ6_bitCount_0f7a4 27 = .ok (.iushr, 1) := by decide +kernel
theorem dJ6_bitCount_0f7a4_28 : decode cJ6_bitCount_0f7a4 28 = .ok (.iadd, 1) := by decide +kernel
theorem dJ6_bitCount_0f7a4_29 : decode cJ6_bitCount_0f7a4 29 = .ok (.ldc_w 267, 3) := by decide +kernel
theorem dJ6_bitCount_0f7a4_32 : decode cJ6_bitCount_0f7a4 32 = .ok (.iand, 1) := by decide +kernel
theorem dJ6_bitCount_0f7a4_33 : decode cJ6_bitCount_0f7a4 33 = .ok (.istore_n 0, 1) := by decide +kernel
theorem dJ6_bitCount_0f7a4_34 : decode cJ6_bitCount_0f7a4 34 = .ok (.iload_n 0, 1) := by decide +kernel
theorem dJ6_bitCount_0f7a4_35 : decode cJ6_bitCount_0f7a4 35 = .ok (.iload_n 0, 1) := by decide +kernel
theorem dJ6_bitCount_0f7a4_36 : decode cJ6_bitCount_0f7a4 36 = .ok (.bipush 8, 2) := by decide +kernel
theorem dJ6_bitCount_0f7a4_38 : decode cJ6_bitCount_0f7a4 38 = .ok (.iushr, 1) := by decide +kernel
theorem dJ6_bitCount_0f7a4_39 : decode cJ6_bitCount_0f7a4 39 = .ok (.iadd, 1) := by decide +kernel
theorem dJ6_bitCount_0f7a4_40 : decode cJ6_bitCount_0f7a4 40 = .ok (.istore_n 0, 1) := by decide +kernel
theorem dJ6_bitCount_0f7a4_41 : decode cJ6_bitCount_0f7a4 41 = .ok (.iload_n 0, 1) := by decide +kernel
theorem dJ6_bitCount_0f7a4_42 : decode cJ6_bitCount_0f7a4 42 = .ok (.iload_n 0, 1) := by decide +kernel
theorem dJ6_bitCount_0f7a4_43 : decode cJ6_bitCount_0f7a4 43 = .ok (.bipush 16, 2) := by decide +kernel
theorem dJ6_bitCount_0f7a4_45 : decode cJ6_bitCount_0f7a4 45 = .ok (.iushr, 1) := by decide +kernel
theorem dJ6_bitCount_0f7a4_46 : decode cJ6_bitCount_0f7a4 46 = .ok (.iadd, 1) := by decide +kernel
theorem dJ6_bitCount_0f7a4_47 : decode cJ6_bitCount_0f7a4 47 = .ok (.istore_n 0, 1) := by decide +kernel
theorem dJ6_bitCount_0f7a4_48 : decode cJ6_bitCount_0f7a4 48 = .ok (.iload_n 0, 1) := by decide +kernel
theorem dJ6_bitCount_0f7a4_49 : decode cJ6_bitCount_0f7a4 49 = .ok (.bipush 63, 2) := by decide +kernel
theorem dJ6_bitCount_0f7a4_51 : decode cJ6_bitCount_0f7a4 51 = .ok (.iand, 1) := by decide +kernel
theorem dJ6_bitCount_0f7a4_52 : decode cJ6_bitCount_0f7a4 52 = .ok (.ireturn, 1) := by decide +kernel
theorem dJ9_abs_0f7a4_0 : decode cJ9_abs_0f7a4 0 = .ok (.iload_n 0, 1) := by decide +kernel
theorem dJ9_abs_0f7a4_1 : decode cJ9_abs_0f7a4 1 = .ok (.ifCond .ge 8, 3) := by decide +kernel
theorem dJ9_abs_0f7a4_4 : decode cJ9_abs_0f7a4 4 = .ok (.iload_n 0, 1) := by decide +kernel
theorem dJ9_abs_0f7a4_5 : decode cJ9_abs_0f7a4 5 = .ok (.ineg, 1) := by decide +kernel
theorem dJ9_abs_0f7a4_6 : decode cJ9_abs_0f7a4 6 = .ok (.goto 4, 3) := by decide +kernel
theorem dJ9_abs_0f7a4_9 : decode cJ9_abs_0f7a4 9 = .ok (.iload_n 0, 1) := by decide +kernel
theorem dJ9_abs_0f7a4_10 : decode cJ9_abs_0f7a4 10 = .ok (.ireturn, 1) := by decide +kernel
theorem dJ9_max_7cf53_0 : decode cJ9_max_7cf53 0 = .ok (.iload_n 0, 1) := by decide +kernel
theorem dJ9_max_7cf53_1 : decode cJ9_max_7cf53 1 = .ok (.iload_n 1, 1) := by decide +kernel
theorem dJ9_max_7cf53_2 : decode cJ9_max_7cf53 2 = .ok (.if_icmp .lt 7, 3) := by decide +kernel
theorem dJ9_max_7cf53_5 : decode cJ9_max_7cf53 5 = .ok (.iload_n 0, 1) := by decide +kernel
theorem dJ9_max_7cf53_6 : decode cJ9_max_7cf53 6 = .ok (.goto 4, 3) := by decide +kernel
theorem dJ9_max_7cf53_9 : decode cJ9_max_7cf53 9 = .ok (.iload_n 1, 1) := by decide +kernel
theorem dJ9_max_7cf53_10 : decode cJ9_max_7cf53 10 = .ok (.ireturn, 1) := by decide +kernel
theorem dJ9_min_7cf53_0 : decode cJ9_min_7cf53 0 = .ok (.iload_n 0, 1) := by decide +kernel
theorem dJ9_min_7cf53_1 : decode cJ9_min_7cf53 1 = .ok (.iload_n 1, 1) := by decide +kernel
theorem dJ9_min_7cf53_2 : decode cJ9_min_7cf53 2 = .ok (.if_icmp .gt 7, 3) := by decide +kernel
theorem dJ9_min_7cf53_5 : decode cJ9_min_7cf53 5 = .ok (.iload_n 0, 1) := by decide +kernel
theorem dJ9_min_7cf53_6 : decode cJ9_min_7cf53 6 = .ok (.goto 4, 3) := by decide +kernel
theorem dJ9_min_7cf53_9 : decode cJ9_min_7cf53 9 = .ok (.iload_n 1, 1) := by decide +kernel
theorem dJ9_min_7cf53_10 : decode cJ9_min_7cf53 10 = .ok (.ireturn, 1) := by decide +kernel
