section
-- ===== PART A: goes FIRST, ahead of the names: the tables' words, and 'selects' of the private methods out of them =====
/-- a private method of a class that the tables say can be made, by its rows of tables_1 -/
def lw_okq (q : MethodName × Nat) : Prop := (q.1.cls ≠ "java/lang/invoke/MethodHandle" ∧ q.1.cls ≠ "java/lang/invoke/VarHandle") ∧ Cond.instantiable q.1.cls q.2 ∈ tables_1 ∧ Cond.privateMethod q.1 ∈ tables_1 ∧ Cond.instanceMethod q.1 ∈ tables_1
theorem lw_p0 : lw_okq (⟨"BelfryBox$Processor", "start", "()V"⟩, 7) := ⟨⟨by decide +kernel, by decide +kernel⟩, List.mem_of_getElem? (i := 71) (by decide +kernel), List.mem_of_getElem? (i := 271) (by decide +kernel), List.mem_of_getElem? (i := 272) (by decide +kernel)⟩
theorem lw_p1 : lw_okq (⟨"BelfryBox$Processor", "placeAt", "(I)I"⟩, 7) := ⟨⟨by decide +kernel, by decide +kernel⟩, List.mem_of_getElem? (i := 71) (by decide +kernel), List.mem_of_getElem? (i := 275) (by decide +kernel), List.mem_of_getElem? (i := 276) (by decide +kernel)⟩
theorem lw_p2 : lw_okq (⟨"BelfryBox$Processor", "byteAt", "(I)I"⟩, 7) := ⟨⟨by decide +kernel, by decide +kernel⟩, List.mem_of_getElem? (i := 71) (by decide +kernel), List.mem_of_getElem? (i := 279) (by decide +kernel), List.mem_of_getElem? (i := 280) (by decide +kernel)⟩
theorem lw_p3 : lw_okq (⟨"BelfryBox$Assembler", "beginLine", "(I)V"⟩, 18) := ⟨⟨by decide +kernel, by decide +kernel⟩, List.mem_of_getElem? (i := 160) (by decide +kernel), List.mem_of_getElem? (i := 344) (by decide +kernel), List.mem_of_getElem? (i := 345) (by decide +kernel)⟩
theorem lw_p4 : lw_okq (⟨"BelfryBox$Tape", "readLetters", "()V"⟩, 9) := ⟨⟨by decide +kernel, by decide +kernel⟩, List.mem_of_getElem? (i := 116) (by decide +kernel), List.mem_of_getElem? (i := 359) (by decide +kernel), List.mem_of_getElem? (i := 360) (by decide +kernel)⟩
theorem lw_p5 : lw_okq (⟨"BelfryBox$Tape", "wordIn", "(Ljava/lang/String;II)I"⟩, 9) := ⟨⟨by decide +kernel, by decide +kernel⟩, List.mem_of_getElem? (i := 116) (by decide +kernel), List.mem_of_getElem? (i := 367) (by decide +kernel), List.mem_of_getElem? (i := 368) (by decide +kernel)⟩
theorem lw_p6 : lw_okq (⟨"BelfryBox$Tape", "readQuoted", "()V"⟩, 9) := ⟨⟨by decide +kernel, by decide +kernel⟩, List.mem_of_getElem? (i := 116) (by decide +kernel), List.mem_of_getElem? (i := 425) (by decide +kernel), List.mem_of_getElem? (i := 426) (by decide +kernel)⟩
theorem lw_p7 : lw_okq (⟨"BelfryBox$Tape", "readDigits", "(II)V"⟩, 9) := ⟨⟨by decide +kernel, by decide +kernel⟩, List.mem_of_getElem? (i := 116) (by decide +kernel), List.mem_of_getElem? (i := 429) (by decide +kernel), List.mem_of_getElem? (i := 430) (by decide +kernel)⟩
theorem lw_p8 : lw_okq (⟨"BelfryBox$Assembler", "readName", "()Z"⟩, 18) := ⟨⟨by decide +kernel, by decide +kernel⟩, List.mem_of_getElem? (i := 160) (by decide +kernel), List.mem_of_getElem? (i := 494) (by decide +kernel), List.mem_of_getElem? (i := 495) (by decide +kernel)⟩
theorem lw_p9 : lw_okq (⟨"BelfryBox$Assembler", "failHere", "()Z"⟩, 18) := ⟨⟨by decide +kernel, by decide +kernel⟩, List.mem_of_getElem? (i := 160) (by decide +kernel), List.mem_of_getElem? (i := 498) (by decide +kernel), List.mem_of_getElem? (i := 499) (by decide +kernel)⟩
theorem lw_p10 : lw_okq (⟨"BelfryBox$Assembler", "fail", "(II)Z"⟩, 18) := ⟨⟨by decide +kernel, by decide +kernel⟩, List.mem_of_getElem? (i := 160) (by decide +kernel), List.mem_of_getElem? (i := 502) (by decide +kernel), List.mem_of_getElem? (i := 503) (by decide +kernel)⟩
theorem lw_p11 : lw_okq (⟨"BelfryBox$Assembler", "readWord", "()Z"⟩, 18) := ⟨⟨by decide +kernel, by decide +kernel⟩, List.mem_of_getElem? (i := 160) (by decide +kernel), List.mem_of_getElem? (i := 506) (by decide +kernel), List.mem_of_getElem? (i := 507) (by decide +kernel)⟩
theorem lw_p12 : lw_okq (⟨"BelfryBox$Assembler", "readSum", "()Z"⟩, 18) := ⟨⟨by decide +kernel, by decide +kernel⟩, List.mem_of_getElem? (i := 160) (by decide +kernel), List.mem_of_getElem? (i := 510) (by decide +kernel), List.mem_of_getElem? (i := 511) (by decide +kernel)⟩
theorem lw_p13 : lw_okq (⟨"BelfryBox$Assembler", "termHere", "()I"⟩, 18) := ⟨⟨by decide +kernel, by decide +kernel⟩, List.mem_of_getElem? (i := 160) (by decide +kernel), List.mem_of_getElem? (i := 514) (by decide +kernel), List.mem_of_getElem? (i := 515) (by decide +kernel)⟩
theorem lw_p14 : lw_okq (⟨"BelfryBox$Assembler", "readWay", "(I)Z"⟩, 18) := ⟨⟨by decide +kernel, by decide +kernel⟩, List.mem_of_getElem? (i := 160) (by decide +kernel), List.mem_of_getElem? (i := 533) (by decide +kernel), List.mem_of_getElem? (i := 534) (by decide +kernel)⟩
theorem lw_p15 : lw_okq (⟨"BelfryBox$Assembler", "needRange", "(II)V"⟩, 18) := ⟨⟨by decide +kernel, by decide +kernel⟩, List.mem_of_getElem? (i := 160) (by decide +kernel), List.mem_of_getElem? (i := 538) (by decide +kernel), List.mem_of_getElem? (i := 539) (by decide +kernel)⟩
def lw_privs_1 : List (MethodName × Nat) := [(⟨"BelfryBox$Processor", "start", "()V"⟩, 7), (⟨"BelfryBox$Processor", "placeAt", "(I)I"⟩, 7), (⟨"BelfryBox$Processor", "byteAt", "(I)I"⟩, 7), (⟨"BelfryBox$Assembler", "beginLine", "(I)V"⟩, 18), (⟨"BelfryBox$Tape", "readLetters", "()V"⟩, 9), (⟨"BelfryBox$Tape", "wordIn", "(Ljava/lang/String;II)I"⟩, 9), (⟨"BelfryBox$Tape", "readQuoted", "()V"⟩, 9), (⟨"BelfryBox$Tape", "readDigits", "(II)V"⟩, 9), (⟨"BelfryBox$Assembler", "readName", "()Z"⟩, 18), (⟨"BelfryBox$Assembler", "failHere", "()Z"⟩, 18), (⟨"BelfryBox$Assembler", "fail", "(II)Z"⟩, 18), (⟨"BelfryBox$Assembler", "readWord", "()Z"⟩, 18), (⟨"BelfryBox$Assembler", "readSum", "()Z"⟩, 18), (⟨"BelfryBox$Assembler", "termHere", "()I"⟩, 18), (⟨"BelfryBox$Assembler", "readWay", "(I)Z"⟩, 18), (⟨"BelfryBox$Assembler", "needRange", "(II)V"⟩, 18)]
theorem lw_r1 : ∀ q ∈ lw_privs_1, lw_okq q := List.forall_mem_cons.mpr ⟨lw_p0, List.forall_mem_cons.mpr ⟨lw_p1, List.forall_mem_cons.mpr ⟨lw_p2, List.forall_mem_cons.mpr ⟨lw_p3, List.forall_mem_cons.mpr ⟨lw_p4, List.forall_mem_cons.mpr ⟨lw_p5, List.forall_mem_cons.mpr ⟨lw_p6, List.forall_mem_cons.mpr ⟨lw_p7, List.forall_mem_cons.mpr ⟨lw_p8, List.forall_mem_cons.mpr ⟨lw_p9, List.forall_mem_cons.mpr ⟨lw_p10, List.forall_mem_cons.mpr ⟨lw_p11, List.forall_mem_cons.mpr ⟨lw_p12, List.forall_mem_cons.mpr ⟨lw_p13, List.forall_mem_cons.mpr ⟨lw_p14, List.forall_mem_cons.mpr ⟨lw_p15, fun _ h => absurd h List.not_mem_nil⟩⟩⟩⟩⟩⟩⟩⟩⟩⟩⟩⟩⟩⟩⟩⟩
theorem lw_p16 : lw_okq (⟨"BelfryBox$Assembler", "lay", "(I)V"⟩, 18) := ⟨⟨by decide +kernel, by decide +kernel⟩, List.mem_of_getElem? (i := 160) (by decide +kernel), List.mem_of_getElem? (i := 542) (by decide +kernel), List.mem_of_getElem? (i := 543) (by decide +kernel)⟩
theorem lw_p17 : lw_okq (⟨"BelfryBox$Assembler", "readShort", "(I)Z"⟩, 18) := ⟨⟨by decide +kernel, by decide +kernel⟩, List.mem_of_getElem? (i := 160) (by decide +kernel), List.mem_of_getElem? (i := 546) (by decide +kernel), List.mem_of_getElem? (i := 547) (by decide +kernel)⟩
theorem lw_p18 : lw_okq (⟨"BelfryBox$Assembler", "readText", "()Z"⟩, 18) := ⟨⟨by decide +kernel, by decide +kernel⟩, List.mem_of_getElem? (i := 160) (by decide +kernel), List.mem_of_getElem? (i := 553) (by decide +kernel), List.mem_of_getElem? (i := 554) (by decide +kernel)⟩
theorem lw_p19 : lw_okq (⟨"BelfryBox$Assembler", "readList", "()Z"⟩, 18) := ⟨⟨by decide +kernel, by decide +kernel⟩, List.mem_of_getElem? (i := 160) (by decide +kernel), List.mem_of_getElem? (i := 557) (by decide +kernel), List.mem_of_getElem? (i := 558) (by decide +kernel)⟩
theorem lw_p20 : lw_okq (⟨"BelfryBox$Assembler", "readRemark", "()Z"⟩, 18) := ⟨⟨by decide +kernel, by decide +kernel⟩, List.mem_of_getElem? (i := 160) (by decide +kernel), List.mem_of_getElem? (i := 561) (by decide +kernel), List.mem_of_getElem? (i := 562) (by decide +kernel)⟩
theorem lw_p21 : lw_okq (⟨"BelfryBox$Assembler", "checkSecond", "()Z"⟩, 18) := ⟨⟨by decide +kernel, by decide +kernel⟩, List.mem_of_getElem? (i := 160) (by decide +kernel), List.mem_of_getElem? (i := 565) (by decide +kernel), List.mem_of_getElem? (i := 566) (by decide +kernel)⟩
theorem lw_p22 : lw_okq (⟨"BelfryBox$Assembler", "leaveSpace", "()V"⟩, 18) := ⟨⟨by decide +kernel, by decide +kernel⟩, List.mem_of_getElem? (i := 160) (by decide +kernel), List.mem_of_getElem? (i := 569) (by decide +kernel), List.mem_of_getElem? (i := 570) (by decide +kernel)⟩
theorem lw_p23 : lw_okq (⟨"BelfryBox$Assembler", "checkFirst", "()Z"⟩, 18) := ⟨⟨by decide +kernel, by decide +kernel⟩, List.mem_of_getElem? (i := 160) (by decide +kernel), List.mem_of_getElem? (i := 573) (by decide +kernel), List.mem_of_getElem? (i := 574) (by decide +kernel)⟩
theorem lw_p24 : lw_okq (⟨"BelfryBox$Processor", "whyToEnd", "(Z)I"⟩, 7) := ⟨⟨by decide +kernel, by decide +kernel⟩, List.mem_of_getElem? (i := 71) (by decide +kernel), List.mem_of_getElem? (i := 658) (by decide +kernel), List.mem_of_getElem? (i := 659) (by decide +kernel)⟩
theorem lw_p25 : lw_okq (⟨"BelfryBox$Processor", "interruptComes", "()Z"⟩, 7) := ⟨⟨by decide +kernel, by decide +kernel⟩, List.mem_of_getElem? (i := 71) (by decide +kernel), List.mem_of_getElem? (i := 662) (by decide +kernel), List.mem_of_getElem? (i := 663) (by decide +kernel)⟩
theorem lw_p26 : lw_okq (⟨"BelfryBox$Processor", "doStep", "()V"⟩, 7) := ⟨⟨by decide +kernel, by decide +kernel⟩, List.mem_of_getElem? (i := 71) (by decide +kernel), List.mem_of_getElem? (i := 670) (by decide +kernel), List.mem_of_getElem? (i := 671) (by decide +kernel)⟩
theorem lw_p27 : lw_okq (⟨"BelfryBox$Processor", "takeByte", "()I"⟩, 7) := ⟨⟨by decide +kernel, by decide +kernel⟩, List.mem_of_getElem? (i := 71) (by decide +kernel), List.mem_of_getElem? (i := 680) (by decide +kernel), List.mem_of_getElem? (i := 681) (by decide +kernel)⟩
theorem lw_p28 : lw_okq (⟨"BelfryBox$Processor", "interrupt", "()I"⟩, 7) := ⟨⟨by decide +kernel, by decide +kernel⟩, List.mem_of_getElem? (i := 71) (by decide +kernel), List.mem_of_getElem? (i := 688) (by decide +kernel), List.mem_of_getElem? (i := 689) (by decide +kernel)⟩
theorem lw_p29 : lw_okq (⟨"BelfryBox$Processor", "enter", "(I)V"⟩, 7) := ⟨⟨by decide +kernel, by decide +kernel⟩, List.mem_of_getElem? (i := 71) (by decide +kernel), List.mem_of_getElem? (i := 692) (by decide +kernel), List.mem_of_getElem? (i := 693) (by decide +kernel)⟩
theorem lw_p30 : lw_okq (⟨"BelfryBox$Processor", "push", "(I)V"⟩, 7) := ⟨⟨by decide +kernel, by decide +kernel⟩, List.mem_of_getElem? (i := 71) (by decide +kernel), List.mem_of_getElem? (i := 696) (by decide +kernel), List.mem_of_getElem? (i := 697) (by decide +kernel)⟩
theorem lw_p31 : lw_okq (⟨"BelfryBox$Processor", "doCode", "(I)I"⟩, 7) := ⟨⟨by decide +kernel, by decide +kernel⟩, List.mem_of_getElem? (i := 71) (by decide +kernel), List.mem_of_getElem? (i := 704) (by decide +kernel), List.mem_of_getElem? (i := 705) (by decide +kernel)⟩
def lw_privs_2 : List (MethodName × Nat) := [(⟨"BelfryBox$Assembler", "lay", "(I)V"⟩, 18), (⟨"BelfryBox$Assembler", "readShort", "(I)Z"⟩, 18), (⟨"BelfryBox$Assembler", "readText", "()Z"⟩, 18), (⟨"BelfryBox$Assembler", "readList", "()Z"⟩, 18), (⟨"BelfryBox$Assembler", "readRemark", "()Z"⟩, 18), (⟨"BelfryBox$Assembler", "checkSecond", "()Z"⟩, 18), (⟨"BelfryBox$Assembler", "leaveSpace", "()V"⟩, 18), (⟨"BelfryBox$Assembler", "checkFirst", "()Z"⟩, 18), (⟨"BelfryBox$Processor", "whyToEnd", "(Z)I"⟩, 7), (⟨"BelfryBox$Processor", "interruptComes", "()Z"⟩, 7), (⟨"BelfryBox$Processor", "doStep", "()V"⟩, 7), (⟨"BelfryBox$Processor", "takeByte", "()I"⟩, 7), (⟨"BelfryBox$Processor", "interrupt", "()I"⟩, 7), (⟨"BelfryBox$Processor", "enter", "(I)V"⟩, 7), (⟨"BelfryBox$Processor", "push", "(I)V"⟩, 7), (⟨"BelfryBox$Processor", "doCode", "(I)I"⟩, 7)]
theorem lw_r2 : ∀ q ∈ lw_privs_2, lw_okq q := List.forall_mem_cons.mpr ⟨lw_p16, List.forall_mem_cons.mpr ⟨lw_p17, List.forall_mem_cons.mpr ⟨lw_p18, List.forall_mem_cons.mpr ⟨lw_p19, List.forall_mem_cons.mpr ⟨lw_p20, List.forall_mem_cons.mpr ⟨lw_p21, List.forall_mem_cons.mpr ⟨lw_p22, List.forall_mem_cons.mpr ⟨lw_p23, List.forall_mem_cons.mpr ⟨lw_p24, List.forall_mem_cons.mpr ⟨lw_p25, List.forall_mem_cons.mpr ⟨lw_p26, List.forall_mem_cons.mpr ⟨lw_p27, List.forall_mem_cons.mpr ⟨lw_p28, List.forall_mem_cons.mpr ⟨lw_p29, List.forall_mem_cons.mpr ⟨lw_p30, List.forall_mem_cons.mpr ⟨lw_p31, fun _ h => absurd h List.not_mem_nil⟩⟩⟩⟩⟩⟩⟩⟩⟩⟩⟩⟩⟩⟩⟩⟩
theorem lw_p32 : lw_okq (⟨"BelfryBox$Processor", "doOwn", "(I)I"⟩, 7) := ⟨⟨by decide +kernel, by decide +kernel⟩, List.mem_of_getElem? (i := 71) (by decide +kernel), List.mem_of_getElem? (i := 711) (by decide +kernel), List.mem_of_getElem? (i := 712) (by decide +kernel)⟩
theorem lw_p33 : lw_okq (⟨"BelfryBox$Processor", "doEnding", "(I)I"⟩, 7) := ⟨⟨by decide +kernel, by decide +kernel⟩, List.mem_of_getElem? (i := 71) (by decide +kernel), List.mem_of_getElem? (i := 715) (by decide +kernel), List.mem_of_getElem? (i := 716) (by decide +kernel)⟩
theorem lw_p34 : lw_okq (⟨"BelfryBox$Processor", "pull", "()I"⟩, 7) := ⟨⟨by decide +kernel, by decide +kernel⟩, List.mem_of_getElem? (i := 71) (by decide +kernel), List.mem_of_getElem? (i := 719) (by decide +kernel), List.mem_of_getElem? (i := 720) (by decide +kernel)⟩
theorem lw_p35 : lw_okq (⟨"BelfryBox$Processor", "pullPlace", "()V"⟩, 7) := ⟨⟨by decide +kernel, by decide +kernel⟩, List.mem_of_getElem? (i := 71) (by decide +kernel), List.mem_of_getElem? (i := 723) (by decide +kernel), List.mem_of_getElem? (i := 724) (by decide +kernel)⟩
theorem lw_p36 : lw_okq (⟨"BelfryBox$Processor", "move", "(I)V"⟩, 7) := ⟨⟨by decide +kernel, by decide +kernel⟩, List.mem_of_getElem? (i := 71) (by decide +kernel), List.mem_of_getElem? (i := 727) (by decide +kernel), List.mem_of_getElem? (i := 728) (by decide +kernel)⟩
theorem lw_p37 : lw_okq (⟨"BelfryBox$Processor", "set", "(II)V"⟩, 7) := ⟨⟨by decide +kernel, by decide +kernel⟩, List.mem_of_getElem? (i := 71) (by decide +kernel), List.mem_of_getElem? (i := 731) (by decide +kernel), List.mem_of_getElem? (i := 732) (by decide +kernel)⟩
theorem lw_p38 : lw_okq (⟨"BelfryBox$Processor", "setNz", "(I)V"⟩, 7) := ⟨⟨by decide +kernel, by decide +kernel⟩, List.mem_of_getElem? (i := 71) (by decide +kernel), List.mem_of_getElem? (i := 735) (by decide +kernel), List.mem_of_getElem? (i := 736) (by decide +kernel)⟩
theorem lw_p39 : lw_okq (⟨"BelfryBox$Processor", "useStack", "(I)V"⟩, 7) := ⟨⟨by decide +kernel, by decide +kernel⟩, List.mem_of_getElem? (i := 71) (by decide +kernel), List.mem_of_getElem? (i := 739) (by decide +kernel), List.mem_of_getElem? (i := 740) (by decide +kernel)⟩
theorem lw_p40 : lw_okq (⟨"BelfryBox$Processor", "changeFlag", "(I)V"⟩, 7) := ⟨⟨by decide +kernel, by decide +kernel⟩, List.mem_of_getElem? (i := 71) (by decide +kernel), List.mem_of_getElem? (i := 743) (by decide +kernel), List.mem_of_getElem? (i := 744) (by decide +kernel)⟩
theorem lw_p41 : lw_okq (⟨"BelfryBox$Processor", "setFlag", "(IZ)V"⟩, 7) := ⟨⟨by decide +kernel, by decide +kernel⟩, List.mem_of_getElem? (i := 71) (by decide +kernel), List.mem_of_getElem? (i := 747) (by decide +kernel), List.mem_of_getElem? (i := 748) (by decide +kernel)⟩
theorem lw_p42 : lw_okq (⟨"BelfryBox$Processor", "changeRegister", "(I)V"⟩, 7) := ⟨⟨by decide +kernel, by decide +kernel⟩, List.mem_of_getElem? (i := 71) (by decide +kernel), List.mem_of_getElem? (i := 751) (by decide +kernel), List.mem_of_getElem? (i := 752) (by decide +kernel)⟩
theorem lw_p43 : lw_okq (⟨"BelfryBox$Processor", "decimals", "()I"⟩, 7) := ⟨⟨by decide +kernel, by decide +kernel⟩, List.mem_of_getElem? (i := 71) (by decide +kernel), List.mem_of_getElem? (i := 755) (by decide +kernel), List.mem_of_getElem? (i := 756) (by decide +kernel)⟩
theorem lw_p44 : lw_okq (⟨"BelfryBox$Processor", "doShort", "(II)I"⟩, 7) := ⟨⟨by decide +kernel, by decide +kernel⟩, List.mem_of_getElem? (i := 71) (by decide +kernel), List.mem_of_getElem? (i := 759) (by decide +kernel), List.mem_of_getElem? (i := 760) (by decide +kernel)⟩
theorem lw_p45 : lw_okq (⟨"BelfryBox$Processor", "pushPlace", "()V"⟩, 7) := ⟨⟨by decide +kernel, by decide +kernel⟩, List.mem_of_getElem? (i := 71) (by decide +kernel), List.mem_of_getElem? (i := 763) (by decide +kernel), List.mem_of_getElem? (i := 764) (by decide +kernel)⟩
theorem lw_p46 : lw_okq (⟨"BelfryBox$Processor", "goBy", "(I)V"⟩, 7) := ⟨⟨by decide +kernel, by decide +kernel⟩, List.mem_of_getElem? (i := 71) (by decide +kernel), List.mem_of_getElem? (i := 767) (by decide +kernel), List.mem_of_getElem? (i := 768) (by decide +kernel)⟩
theorem lw_p47 : lw_okq (⟨"BelfryBox$Processor", "branch", "(II)I"⟩, 7) := ⟨⟨by decide +kernel, by decide +kernel⟩, List.mem_of_getElem? (i := 71) (by decide +kernel), List.mem_of_getElem? (i := 774) (by decide +kernel), List.mem_of_getElem? (i := 775) (by decide +kernel)⟩
def lw_privs_3 : List (MethodName × Nat) := [(⟨"BelfryBox$Processor", "doOwn", "(I)I"⟩, 7), (⟨"BelfryBox$Processor", "doEnding", "(I)I"⟩, 7), (⟨"BelfryBox$Processor", "pull", "()I"⟩, 7), (⟨"BelfryBox$Processor", "pullPlace", "()V"⟩, 7), (⟨"BelfryBox$Processor", "move", "(I)V"⟩, 7), (⟨"BelfryBox$Processor", "set", "(II)V"⟩, 7), (⟨"BelfryBox$Processor", "setNz", "(I)V"⟩, 7), (⟨"BelfryBox$Processor", "useStack", "(I)V"⟩, 7), (⟨"BelfryBox$Processor", "changeFlag", "(I)V"⟩, 7), (⟨"BelfryBox$Processor", "setFlag", "(IZ)V"⟩, 7), (⟨"BelfryBox$Processor", "changeRegister", "(I)V"⟩, 7), (⟨"BelfryBox$Processor", "decimals", "()I"⟩, 7), (⟨"BelfryBox$Processor", "doShort", "(II)I"⟩, 7), (⟨"BelfryBox$Processor", "pushPlace", "()V"⟩, 7), (⟨"BelfryBox$Processor", "goBy", "(I)V"⟩, 7), (⟨"BelfryBox$Processor", "branch", "(II)I"⟩, 7)]
theorem lw_r3 : ∀ q ∈ lw_privs_3, lw_okq q := List.forall_mem_cons.mpr ⟨lw_p32, List.forall_mem_cons.mpr ⟨lw_p33, List.forall_mem_cons.mpr ⟨lw_p34, List.forall_mem_cons.mpr ⟨lw_p35, List.forall_mem_cons.mpr ⟨lw_p36, List.forall_mem_cons.mpr ⟨lw_p37, List.forall_mem_cons.mpr ⟨lw_p38, List.forall_mem_cons.mpr ⟨lw_p39, List.forall_mem_cons.mpr ⟨lw_p40, List.forall_mem_cons.mpr ⟨lw_p41, List.forall_mem_cons.mpr ⟨lw_p42, List.forall_mem_cons.mpr ⟨lw_p43, List.forall_mem_cons.mpr ⟨lw_p44, List.forall_mem_cons.mpr ⟨lw_p45, List.forall_mem_cons.mpr ⟨lw_p46, List.forall_mem_cons.mpr ⟨lw_p47, fun _ h => absurd h List.not_mem_nil⟩⟩⟩⟩⟩⟩⟩⟩⟩⟩⟩⟩⟩⟩⟩⟩
theorem lw_p48 : lw_okq (⟨"BelfryBox$Processor", "branchIsDue", "(I)Z"⟩, 7) := ⟨⟨by decide +kernel, by decide +kernel⟩, List.mem_of_getElem? (i := 71) (by decide +kernel), List.mem_of_getElem? (i := 778) (by decide +kernel), List.mem_of_getElem? (i := 779) (by decide +kernel)⟩
theorem lw_p49 : lw_okq (⟨"BelfryBox$Processor", "oneLess", "(I)Z"⟩, 7) := ⟨⟨by decide +kernel, by decide +kernel⟩, List.mem_of_getElem? (i := 71) (by decide +kernel), List.mem_of_getElem? (i := 782) (by decide +kernel), List.mem_of_getElem? (i := 783) (by decide +kernel)⟩
theorem lw_p50 : lw_okq (⟨"BelfryBox$Processor", "findAddress", "(I)I"⟩, 7) := ⟨⟨by decide +kernel, by decide +kernel⟩, List.mem_of_getElem? (i := 71) (by decide +kernel), List.mem_of_getElem? (i := 786) (by decide +kernel), List.mem_of_getElem? (i := 787) (by decide +kernel)⟩
theorem lw_p51 : lw_okq (⟨"BelfryBox$Processor", "takeWord", "()I"⟩, 7) := ⟨⟨by decide +kernel, by decide +kernel⟩, List.mem_of_getElem? (i := 71) (by decide +kernel), List.mem_of_getElem? (i := 790) (by decide +kernel), List.mem_of_getElem? (i := 791) (by decide +kernel)⟩
theorem lw_p52 : lw_okq (⟨"BelfryBox$Processor", "pointerAt", "(I)I"⟩, 7) := ⟨⟨by decide +kernel, by decide +kernel⟩, List.mem_of_getElem? (i := 71) (by decide +kernel), List.mem_of_getElem? (i := 794) (by decide +kernel), List.mem_of_getElem? (i := 795) (by decide +kernel)⟩
theorem lw_p53 : lw_okq (⟨"BelfryBox$Processor", "readAt", "(I)I"⟩, 7) := ⟨⟨by decide +kernel, by decide +kernel⟩, List.mem_of_getElem? (i := 71) (by decide +kernel), List.mem_of_getElem? (i := 798) (by decide +kernel), List.mem_of_getElem? (i := 799) (by decide +kernel)⟩
theorem lw_p54 : lw_okq (⟨"BelfryBox$Devices", "bellsReady", "()I"⟩, 5) := ⟨⟨by decide +kernel, by decide +kernel⟩, List.mem_of_getElem? (i := 28) (by decide +kernel), List.mem_of_getElem? (i := 810) (by decide +kernel), List.mem_of_getElem? (i := 811) (by decide +kernel)⟩
theorem lw_p55 : lw_okq (⟨"BelfryBox$Devices", "takeKey", "()I"⟩, 5) := ⟨⟨by decide +kernel, by decide +kernel⟩, List.mem_of_getElem? (i := 28) (by decide +kernel), List.mem_of_getElem? (i := 814) (by decide +kernel), List.mem_of_getElem? (i := 815) (by decide +kernel)⟩
theorem lw_p56 : lw_okq (⟨"BelfryBox$Devices", "castDice", "()I"⟩, 5) := ⟨⟨by decide +kernel, by decide +kernel⟩, List.mem_of_getElem? (i := 28) (by decide +kernel), List.mem_of_getElem? (i := 818) (by decide +kernel), List.mem_of_getElem? (i := 819) (by decide +kernel)⟩
theorem lw_p57 : lw_okq (⟨"BelfryBox$Processor", "useValue", "(II)V"⟩, 7) := ⟨⟨by decide +kernel, by decide +kernel⟩, List.mem_of_getElem? (i := 71) (by decide +kernel), List.mem_of_getElem? (i := 823) (by decide +kernel), List.mem_of_getElem? (i := 824) (by decide +kernel)⟩
theorem lw_p58 : lw_okq (⟨"BelfryBox$Processor", "add", "(I)V"⟩, 7) := ⟨⟨by decide +kernel, by decide +kernel⟩, List.mem_of_getElem? (i := 71) (by decide +kernel), List.mem_of_getElem? (i := 827) (by decide +kernel), List.mem_of_getElem? (i := 828) (by decide +kernel)⟩
theorem lw_p59 : lw_okq (⟨"BelfryBox$Processor", "carry", "()I"⟩, 7) := ⟨⟨by decide +kernel, by decide +kernel⟩, List.mem_of_getElem? (i := 71) (by decide +kernel), List.mem_of_getElem? (i := 831) (by decide +kernel), List.mem_of_getElem? (i := 832) (by decide +kernel)⟩
theorem lw_p60 : lw_okq (⟨"BelfryBox$Processor", "compare", "(II)V"⟩, 7) := ⟨⟨by decide +kernel, by decide +kernel⟩, List.mem_of_getElem? (i := 71) (by decide +kernel), List.mem_of_getElem? (i := 835) (by decide +kernel), List.mem_of_getElem? (i := 836) (by decide +kernel)⟩
theorem lw_p61 : lw_okq (⟨"BelfryBox$Processor", "test", "(I)V"⟩, 7) := ⟨⟨by decide +kernel, by decide +kernel⟩, List.mem_of_getElem? (i := 71) (by decide +kernel), List.mem_of_getElem? (i := 839) (by decide +kernel), List.mem_of_getElem? (i := 840) (by decide +kernel)⟩
theorem lw_p62 : lw_okq (⟨"BelfryBox$Processor", "multiply", "(I)V"⟩, 7) := ⟨⟨by decide +kernel, by decide +kernel⟩, List.mem_of_getElem? (i := 71) (by decide +kernel), List.mem_of_getElem? (i := 843) (by decide +kernel), List.mem_of_getElem? (i := 844) (by decide +kernel)⟩
theorem lw_p63 : lw_okq (⟨"BelfryBox$Processor", "divide", "(I)V"⟩, 7) := ⟨⟨by decide +kernel, by decide +kernel⟩, List.mem_of_getElem? (i := 71) (by decide +kernel), List.mem_of_getElem? (i := 847) (by decide +kernel), List.mem_of_getElem? (i := 848) (by decide +kernel)⟩
def lw_privs_4 : List (MethodName × Nat) := [(⟨"BelfryBox$Processor", "branchIsDue", "(I)Z"⟩, 7), (⟨"BelfryBox$Processor", "oneLess", "(I)Z"⟩, 7), (⟨"BelfryBox$Processor", "findAddress", "(I)I"⟩, 7), (⟨"BelfryBox$Processor", "takeWord", "()I"⟩, 7), (⟨"BelfryBox$Processor", "pointerAt", "(I)I"⟩, 7), (⟨"BelfryBox$Processor", "readAt", "(I)I"⟩, 7), (⟨"BelfryBox$Devices", "bellsReady", "()I"⟩, 5), (⟨"BelfryBox$Devices", "takeKey", "()I"⟩, 5), (⟨"BelfryBox$Devices", "castDice", "()I"⟩, 5), (⟨"BelfryBox$Processor", "useValue", "(II)V"⟩, 7), (⟨"BelfryBox$Processor", "add", "(I)V"⟩, 7), (⟨"BelfryBox$Processor", "carry", "()I"⟩, 7), (⟨"BelfryBox$Processor", "compare", "(II)V"⟩, 7), (⟨"BelfryBox$Processor", "test", "(I)V"⟩, 7), (⟨"BelfryBox$Processor", "multiply", "(I)V"⟩, 7), (⟨"BelfryBox$Processor", "divide", "(I)V"⟩, 7)]
theorem lw_r4 : ∀ q ∈ lw_privs_4, lw_okq q := List.forall_mem_cons.mpr ⟨lw_p48, List.forall_mem_cons.mpr ⟨lw_p49, List.forall_mem_cons.mpr ⟨lw_p50, List.forall_mem_cons.mpr ⟨lw_p51, List.forall_mem_cons.mpr ⟨lw_p52, List.forall_mem_cons.mpr ⟨lw_p53, List.forall_mem_cons.mpr ⟨lw_p54, List.forall_mem_cons.mpr ⟨lw_p55, List.forall_mem_cons.mpr ⟨lw_p56, List.forall_mem_cons.mpr ⟨lw_p57, List.forall_mem_cons.mpr ⟨lw_p58, List.forall_mem_cons.mpr ⟨lw_p59, List.forall_mem_cons.mpr ⟨lw_p60, List.forall_mem_cons.mpr ⟨lw_p61, List.forall_mem_cons.mpr ⟨lw_p62, List.forall_mem_cons.mpr ⟨lw_p63, fun _ h => absurd h List.not_mem_nil⟩⟩⟩⟩⟩⟩⟩⟩⟩⟩⟩⟩⟩⟩⟩⟩
theorem lw_p64 : lw_okq (⟨"BelfryBox$Processor", "addTo", "(II)V"⟩, 7) := ⟨⟨by decide +kernel, by decide +kernel⟩, List.mem_of_getElem? (i := 71) (by decide +kernel), List.mem_of_getElem? (i := 851) (by decide +kernel), List.mem_of_getElem? (i := 852) (by decide +kernel)⟩
theorem lw_p65 : lw_okq (⟨"BelfryBox$Processor", "useAddress", "(II)V"⟩, 7) := ⟨⟨by decide +kernel, by decide +kernel⟩, List.mem_of_getElem? (i := 71) (by decide +kernel), List.mem_of_getElem? (i := 855) (by decide +kernel), List.mem_of_getElem? (i := 856) (by decide +kernel)⟩
theorem lw_p66 : lw_okq (⟨"BelfryBox$Processor", "writeAt", "(II)V"⟩, 7) := ⟨⟨by decide +kernel, by decide +kernel⟩, List.mem_of_getElem? (i := 71) (by decide +kernel), List.mem_of_getElem? (i := 859) (by decide +kernel), List.mem_of_getElem? (i := 860) (by decide +kernel)⟩
theorem lw_p67 : lw_okq (⟨"BelfryBox$Devices", "setClock", "(I)V"⟩, 5) := ⟨⟨by decide +kernel, by decide +kernel⟩, List.mem_of_getElem? (i := 28) (by decide +kernel), List.mem_of_getElem? (i := 868) (by decide +kernel), List.mem_of_getElem? (i := 869) (by decide +kernel)⟩
theorem lw_p68 : lw_okq (⟨"BelfryBox$Devices", "strike", "(II)V"⟩, 5) := ⟨⟨by decide +kernel, by decide +kernel⟩, List.mem_of_getElem? (i := 28) (by decide +kernel), List.mem_of_getElem? (i := 872) (by decide +kernel), List.mem_of_getElem? (i := 873) (by decide +kernel)⟩
theorem lw_p69 : lw_okq (⟨"BelfryBox$Devices", "print", "(I)V"⟩, 5) := ⟨⟨by decide +kernel, by decide +kernel⟩, List.mem_of_getElem? (i := 28) (by decide +kernel), List.mem_of_getElem? (i := 876) (by decide +kernel), List.mem_of_getElem? (i := 877) (by decide +kernel)⟩
theorem lw_p70 : lw_okq (⟨"BelfryBox$Processor", "changed", "(II)I"⟩, 7) := ⟨⟨by decide +kernel, by decide +kernel⟩, List.mem_of_getElem? (i := 71) (by decide +kernel), List.mem_of_getElem? (i := 880) (by decide +kernel), List.mem_of_getElem? (i := 881) (by decide +kernel)⟩
theorem lw_p71 : lw_okq (⟨"BelfryBox$Processor", "shiftedLeft", "(II)I"⟩, 7) := ⟨⟨by decide +kernel, by decide +kernel⟩, List.mem_of_getElem? (i := 71) (by decide +kernel), List.mem_of_getElem? (i := 884) (by decide +kernel), List.mem_of_getElem? (i := 885) (by decide +kernel)⟩
theorem lw_p72 : lw_okq (⟨"BelfryBox$Processor", "shiftedRight", "(II)I"⟩, 7) := ⟨⟨by decide +kernel, by decide +kernel⟩, List.mem_of_getElem? (i := 71) (by decide +kernel), List.mem_of_getElem? (i := 888) (by decide +kernel), List.mem_of_getElem? (i := 889) (by decide +kernel)⟩
theorem lw_p73 : lw_okq (⟨"BelfryBox$Devices", "passClock", "(I)V"⟩, 5) := ⟨⟨by decide +kernel, by decide +kernel⟩, List.mem_of_getElem? (i := 28) (by decide +kernel), List.mem_of_getElem? (i := 900) (by decide +kernel), List.mem_of_getElem? (i := 901) (by decide +kernel)⟩
theorem lw_p74 : lw_okq (⟨"BelfryBox$Devices", "passDrum", "(I)V"⟩, 5) := ⟨⟨by decide +kernel, by decide +kernel⟩, List.mem_of_getElem? (i := 28) (by decide +kernel), List.mem_of_getElem? (i := 904) (by decide +kernel), List.mem_of_getElem? (i := 905) (by decide +kernel)⟩
theorem lw_p75 : lw_okq (⟨"BelfryBox$Devices", "passBells", "(I)V"⟩, 5) := ⟨⟨by decide +kernel, by decide +kernel⟩, List.mem_of_getElem? (i := 28) (by decide +kernel), List.mem_of_getElem? (i := 908) (by decide +kernel), List.mem_of_getElem? (i := 909) (by decide +kernel)⟩
theorem lw_p76 : lw_okq (⟨"BelfryBox$Processor", "reset", "()V"⟩, 7) := ⟨⟨by decide +kernel, by decide +kernel⟩, List.mem_of_getElem? (i := 71) (by decide +kernel), List.mem_of_getElem? (i := 913) (by decide +kernel), List.mem_of_getElem? (i := 914) (by decide +kernel)⟩
theorem lw_p77 : lw_okq (⟨"BelfryBox$Reader", "tellShort", "(II)V"⟩, 2) := ⟨⟨by decide +kernel, by decide +kernel⟩, List.mem_of_getElem? (i := 249) (by decide +kernel), List.mem_of_getElem? (i := 963) (by decide +kernel), List.mem_of_getElem? (i := 964) (by decide +kernel)⟩
theorem lw_p78 : lw_okq (⟨"BelfryBox$Reader", "putWord", "(Ljava/lang/String;I)V"⟩, 2) := ⟨⟨by decide +kernel, by decide +kernel⟩, List.mem_of_getElem? (i := 249) (by decide +kernel), List.mem_of_getElem? (i := 968) (by decide +kernel), List.mem_of_getElem? (i := 969) (by decide +kernel)⟩
theorem lw_p79 : lw_okq (⟨"BelfryBox$Reader", "put", "(I)V"⟩, 2) := ⟨⟨by decide +kernel, by decide +kernel⟩, List.mem_of_getElem? (i := 249) (by decide +kernel), List.mem_of_getElem? (i := 974) (by decide +kernel), List.mem_of_getElem? (i := 975) (by decide +kernel)⟩
def lw_privs_5 : List (MethodName × Nat) := [(⟨"BelfryBox$Processor", "addTo", "(II)V"⟩, 7), (⟨"BelfryBox$Processor", "useAddress", "(II)V"⟩, 7), (⟨"BelfryBox$Processor", "writeAt", "(II)V"⟩, 7), (⟨"BelfryBox$Devices", "setClock", "(I)V"⟩, 5), (⟨"BelfryBox$Devices", "strike", "(II)V"⟩, 5), (⟨"BelfryBox$Devices", "print", "(I)V"⟩, 5), (⟨"BelfryBox$Processor", "changed", "(II)I"⟩, 7), (⟨"BelfryBox$Processor", "shiftedLeft", "(II)I"⟩, 7), (⟨"BelfryBox$Processor", "shiftedRight", "(II)I"⟩, 7), (⟨"BelfryBox$Devices", "passClock", "(I)V"⟩, 5), (⟨"BelfryBox$Devices", "passDrum", "(I)V"⟩, 5), (⟨"BelfryBox$Devices", "passBells", "(I)V"⟩, 5), (⟨"BelfryBox$Processor", "reset", "()V"⟩, 7), (⟨"BelfryBox$Reader", "tellShort", "(II)V"⟩, 2), (⟨"BelfryBox$Reader", "putWord", "(Ljava/lang/String;I)V"⟩, 2), (⟨"BelfryBox$Reader", "put", "(I)V"⟩, 2)]
theorem lw_r5 : ∀ q ∈ lw_privs_5, lw_okq q := List.forall_mem_cons.mpr ⟨lw_p64, List.forall_mem_cons.mpr ⟨lw_p65, List.forall_mem_cons.mpr ⟨lw_p66, List.forall_mem_cons.mpr ⟨lw_p67, List.forall_mem_cons.mpr ⟨lw_p68, List.forall_mem_cons.mpr ⟨lw_p69, List.forall_mem_cons.mpr ⟨lw_p70, List.forall_mem_cons.mpr ⟨lw_p71, List.forall_mem_cons.mpr ⟨lw_p72, List.forall_mem_cons.mpr ⟨lw_p73, List.forall_mem_cons.mpr ⟨lw_p74, List.forall_mem_cons.mpr ⟨lw_p75, List.forall_mem_cons.mpr ⟨lw_p76, List.forall_mem_cons.mpr ⟨lw_p77, List.forall_mem_cons.mpr ⟨lw_p78, List.forall_mem_cons.mpr ⟨lw_p79, fun _ h => absurd h List.not_mem_nil⟩⟩⟩⟩⟩⟩⟩⟩⟩⟩⟩⟩⟩⟩⟩⟩
theorem lw_p80 : lw_okq (⟨"BelfryBox$Reader", "putIllegal", "(I)V"⟩, 2) := ⟨⟨by decide +kernel, by decide +kernel⟩, List.mem_of_getElem? (i := 249) (by decide +kernel), List.mem_of_getElem? (i := 978) (by decide +kernel), List.mem_of_getElem? (i := 979) (by decide +kernel)⟩
theorem lw_p81 : lw_okq (⟨"BelfryBox$Reader", "putNumber", "(I)V"⟩, 2) := ⟨⟨by decide +kernel, by decide +kernel⟩, List.mem_of_getElem? (i := 249) (by decide +kernel), List.mem_of_getElem? (i := 982) (by decide +kernel), List.mem_of_getElem? (i := 983) (by decide +kernel)⟩
theorem lw_p82 : lw_okq (⟨"BelfryBox$Reader", "tellWay", "(II)V"⟩, 2) := ⟨⟨by decide +kernel, by decide +kernel⟩, List.mem_of_getElem? (i := 249) (by decide +kernel), List.mem_of_getElem? (i := 993) (by decide +kernel), List.mem_of_getElem? (i := 994) (by decide +kernel)⟩
theorem lw_p83 : lw_okq (⟨"BelfryBoxModel", "begin", "()V"⟩, 79) := ⟨⟨by decide +kernel, by decide +kernel⟩, List.mem_of_getElem? (i := 1001) (by decide +kernel), List.mem_of_getElem? (i := 1011) (by decide +kernel), List.mem_of_getElem? (i := 1012) (by decide +kernel)⟩
theorem lw_p84 : lw_okq (⟨"BelfryBoxModel", "start", "()V"⟩, 79) := ⟨⟨by decide +kernel, by decide +kernel⟩, List.mem_of_getElem? (i := 1001) (by decide +kernel), List.mem_of_getElem? (i := 1015) (by decide +kernel), List.mem_of_getElem? (i := 1016) (by decide +kernel)⟩
theorem lw_p85 : lw_okq (⟨"BelfryBoxModel", "wordAt", "(I)I"⟩, 79) := ⟨⟨by decide +kernel, by decide +kernel⟩, List.mem_of_getElem? (i := 1001) (by decide +kernel), List.mem_of_getElem? (i := 1019) (by decide +kernel), List.mem_of_getElem? (i := 1020) (by decide +kernel)⟩
theorem lw_p86 : lw_okq (⟨"BelfryBoxModel", "step", "()Z"⟩, 79) := ⟨⟨by decide +kernel, by decide +kernel⟩, List.mem_of_getElem? (i := 1001) (by decide +kernel), List.mem_of_getElem? (i := 1273) (by decide +kernel), List.mem_of_getElem? (i := 1274) (by decide +kernel)⟩
theorem lw_p87 : lw_okq (⟨"BelfryBoxModel", "isIllegal", "()Z"⟩, 79) := ⟨⟨by decide +kernel, by decide +kernel⟩, List.mem_of_getElem? (i := 1001) (by decide +kernel), List.mem_of_getElem? (i := 1277) (by decide +kernel), List.mem_of_getElem? (i := 1278) (by decide +kernel)⟩
theorem lw_p88 : lw_okq (⟨"BelfryBoxModel", "keep", "()V"⟩, 79) := ⟨⟨by decide +kernel, by decide +kernel⟩, List.mem_of_getElem? (i := 1001) (by decide +kernel), List.mem_of_getElem? (i := 1281) (by decide +kernel), List.mem_of_getElem? (i := 1282) (by decide +kernel)⟩
theorem lw_p89 : lw_okq (⟨"BelfryBoxModel", "flags", "()I"⟩, 79) := ⟨⟨by decide +kernel, by decide +kernel⟩, List.mem_of_getElem? (i := 1001) (by decide +kernel), List.mem_of_getElem? (i := 1285) (by decide +kernel), List.mem_of_getElem? (i := 1286) (by decide +kernel)⟩
theorem lw_p90 : lw_okq (⟨"BelfryBoxModel", "pushPlace", "()V"⟩, 79) := ⟨⟨by decide +kernel, by decide +kernel⟩, List.mem_of_getElem? (i := 1001) (by decide +kernel), List.mem_of_getElem? (i := 1292) (by decide +kernel), List.mem_of_getElem? (i := 1293) (by decide +kernel)⟩
theorem lw_p91 : lw_okq (⟨"BelfryBoxModel", "push", "(I)V"⟩, 79) := ⟨⟨by decide +kernel, by decide +kernel⟩, List.mem_of_getElem? (i := 1001) (by decide +kernel), List.mem_of_getElem? (i := 1296) (by decide +kernel), List.mem_of_getElem? (i := 1297) (by decide +kernel)⟩
theorem lw_p92 : lw_okq (⟨"BelfryBoxModel", "put", "(II)V"⟩, 79) := ⟨⟨by decide +kernel, by decide +kernel⟩, List.mem_of_getElem? (i := 1001) (by decide +kernel), List.mem_of_getElem? (i := 1300) (by decide +kernel), List.mem_of_getElem? (i := 1301) (by decide +kernel)⟩
theorem lw_p93 : lw_okq (⟨"BelfryBoxModel", "given", "(II)V"⟩, 79) := ⟨⟨by decide +kernel, by decide +kernel⟩, List.mem_of_getElem? (i := 1001) (by decide +kernel), List.mem_of_getElem? (i := 1304) (by decide +kernel), List.mem_of_getElem? (i := 1305) (by decide +kernel)⟩
theorem lw_p94 : lw_okq (⟨"BelfryBoxModel", "strike", "(I)V"⟩, 79) := ⟨⟨by decide +kernel, by decide +kernel⟩, List.mem_of_getElem? (i := 1001) (by decide +kernel), List.mem_of_getElem? (i := 1309) (by decide +kernel), List.mem_of_getElem? (i := 1310) (by decide +kernel)⟩
theorem lw_p95 : lw_okq (⟨"BelfryBoxModel", "code", "()I"⟩, 79) := ⟨⟨by decide +kernel, by decide +kernel⟩, List.mem_of_getElem? (i := 1001) (by decide +kernel), List.mem_of_getElem? (i := 1313) (by decide +kernel), List.mem_of_getElem? (i := 1314) (by decide +kernel)⟩
def lw_privs_6 : List (MethodName × Nat) := [(⟨"BelfryBox$Reader", "putIllegal", "(I)V"⟩, 2), (⟨"BelfryBox$Reader", "putNumber", "(I)V"⟩, 2), (⟨"BelfryBox$Reader", "tellWay", "(II)V"⟩, 2), (⟨"BelfryBoxModel", "begin", "()V"⟩, 79), (⟨"BelfryBoxModel", "start", "()V"⟩, 79), (⟨"BelfryBoxModel", "wordAt", "(I)I"⟩, 79), (⟨"BelfryBoxModel", "step", "()Z"⟩, 79), (⟨"BelfryBoxModel", "isIllegal", "()Z"⟩, 79), (⟨"BelfryBoxModel", "keep", "()V"⟩, 79), (⟨"BelfryBoxModel", "flags", "()I"⟩, 79), (⟨"BelfryBoxModel", "pushPlace", "()V"⟩, 79), (⟨"BelfryBoxModel", "push", "(I)V"⟩, 79), (⟨"BelfryBoxModel", "put", "(II)V"⟩, 79), (⟨"BelfryBoxModel", "given", "(II)V"⟩, 79), (⟨"BelfryBoxModel", "strike", "(I)V"⟩, 79), (⟨"BelfryBoxModel", "code", "()I"⟩, 79)]
theorem lw_r6 : ∀ q ∈ lw_privs_6, lw_okq q := List.forall_mem_cons.mpr ⟨lw_p80, List.forall_mem_cons.mpr ⟨lw_p81, List.forall_mem_cons.mpr ⟨lw_p82, List.forall_mem_cons.mpr ⟨lw_p83, List.forall_mem_cons.mpr ⟨lw_p84, List.forall_mem_cons.mpr ⟨lw_p85, List.forall_mem_cons.mpr ⟨lw_p86, List.forall_mem_cons.mpr ⟨lw_p87, List.forall_mem_cons.mpr ⟨lw_p88, List.forall_mem_cons.mpr ⟨lw_p89, List.forall_mem_cons.mpr ⟨lw_p90, List.forall_mem_cons.mpr ⟨lw_p91, List.forall_mem_cons.mpr ⟨lw_p92, List.forall_mem_cons.mpr ⟨lw_p93, List.forall_mem_cons.mpr ⟨lw_p94, List.forall_mem_cons.mpr ⟨lw_p95, fun _ h => absurd h List.not_mem_nil⟩⟩⟩⟩⟩⟩⟩⟩⟩⟩⟩⟩⟩⟩⟩⟩
theorem lw_p96 : lw_okq (⟨"BelfryBoxModel", "behind", "()I"⟩, 79) := ⟨⟨by decide +kernel, by decide +kernel⟩, List.mem_of_getElem? (i := 1001) (by decide +kernel), List.mem_of_getElem? (i := 1317) (by decide +kernel), List.mem_of_getElem? (i := 1318) (by decide +kernel)⟩
theorem lw_p97 : lw_okq (⟨"BelfryBoxModel", "place", "(I)I"⟩, 79) := ⟨⟨by decide +kernel, by decide +kernel⟩, List.mem_of_getElem? (i := 1001) (by decide +kernel), List.mem_of_getElem? (i := 1321) (by decide +kernel), List.mem_of_getElem? (i := 1322) (by decide +kernel)⟩
theorem lw_p98 : lw_okq (⟨"BelfryBoxModel", "get", "(I)I"⟩, 79) := ⟨⟨by decide +kernel, by decide +kernel⟩, List.mem_of_getElem? (i := 1001) (by decide +kernel), List.mem_of_getElem? (i := 1328) (by decide +kernel), List.mem_of_getElem? (i := 1329) (by decide +kernel)⟩
theorem lw_p99 : lw_okq (⟨"BelfryBoxModel", "taken", "(I)I"⟩, 79) := ⟨⟨by decide +kernel, by decide +kernel⟩, List.mem_of_getElem? (i := 1001) (by decide +kernel), List.mem_of_getElem? (i := 1332) (by decide +kernel), List.mem_of_getElem? (i := 1333) (by decide +kernel)⟩
theorem lw_p100 : lw_okq (⟨"BelfryBoxModel", "quiet", "()I"⟩, 79) := ⟨⟨by decide +kernel, by decide +kernel⟩, List.mem_of_getElem? (i := 1001) (by decide +kernel), List.mem_of_getElem? (i := 1336) (by decide +kernel), List.mem_of_getElem? (i := 1337) (by decide +kernel)⟩
theorem lw_p101 : lw_okq (⟨"BelfryBoxModel", "firstKey", "()I"⟩, 79) := ⟨⟨by decide +kernel, by decide +kernel⟩, List.mem_of_getElem? (i := 1001) (by decide +kernel), List.mem_of_getElem? (i := 1340) (by decide +kernel), List.mem_of_getElem? (i := 1341) (by decide +kernel)⟩
theorem lw_p102 : lw_okq (⟨"BelfryBoxModel", "valued", "(II)I"⟩, 79) := ⟨⟨by decide +kernel, by decide +kernel⟩, List.mem_of_getElem? (i := 1001) (by decide +kernel), List.mem_of_getElem? (i := 1345) (by decide +kernel), List.mem_of_getElem? (i := 1346) (by decide +kernel)⟩
theorem lw_p103 : lw_okq (⟨"BelfryBoxModel", "signed", "(I)I"⟩, 79) := ⟨⟨by decide +kernel, by decide +kernel⟩, List.mem_of_getElem? (i := 1001) (by decide +kernel), List.mem_of_getElem? (i := 1349) (by decide +kernel), List.mem_of_getElem? (i := 1350) (by decide +kernel)⟩
theorem lw_p104 : lw_okq (⟨"BelfryBoxModel", "sum", "(II)I"⟩, 79) := ⟨⟨by decide +kernel, by decide +kernel⟩, List.mem_of_getElem? (i := 1001) (by decide +kernel), List.mem_of_getElem? (i := 1353) (by decide +kernel), List.mem_of_getElem? (i := 1354) (by decide +kernel)⟩
theorem lw_p105 : lw_okq (⟨"BelfryBoxModel", "compare", "(II)V"⟩, 79) := ⟨⟨by decide +kernel, by decide +kernel⟩, List.mem_of_getElem? (i := 1001) (by decide +kernel), List.mem_of_getElem? (i := 1357) (by decide +kernel), List.mem_of_getElem? (i := 1358) (by decide +kernel)⟩
theorem lw_p106 : lw_okq (⟨"BelfryBoxModel", "divide", "(I)V"⟩, 79) := ⟨⟨by decide +kernel, by decide +kernel⟩, List.mem_of_getElem? (i := 1001) (by decide +kernel), List.mem_of_getElem? (i := 1361) (by decide +kernel), List.mem_of_getElem? (i := 1362) (by decide +kernel)⟩
theorem lw_p107 : lw_okq (⟨"BelfryBoxModel", "more", "(II)I"⟩, 79) := ⟨⟨by decide +kernel, by decide +kernel⟩, List.mem_of_getElem? (i := 1001) (by decide +kernel), List.mem_of_getElem? (i := 1365) (by decide +kernel), List.mem_of_getElem? (i := 1366) (by decide +kernel)⟩
theorem lw_p108 : lw_okq (⟨"BelfryBoxModel", "placed", "(II)I"⟩, 79) := ⟨⟨by decide +kernel, by decide +kernel⟩, List.mem_of_getElem? (i := 1001) (by decide +kernel), List.mem_of_getElem? (i := 1369) (by decide +kernel), List.mem_of_getElem? (i := 1370) (by decide +kernel)⟩
theorem lw_p109 : lw_okq (⟨"BelfryBoxModel", "own", "(I)I"⟩, 79) := ⟨⟨by decide +kernel, by decide +kernel⟩, List.mem_of_getElem? (i := 1001) (by decide +kernel), List.mem_of_getElem? (i := 1373) (by decide +kernel), List.mem_of_getElem? (i := 1374) (by decide +kernel)⟩
theorem lw_p110 : lw_okq (⟨"BelfryBoxModel", "comesBack", "()V"⟩, 79) := ⟨⟨by decide +kernel, by decide +kernel⟩, List.mem_of_getElem? (i := 1001) (by decide +kernel), List.mem_of_getElem? (i := 1377) (by decide +kernel), List.mem_of_getElem? (i := 1378) (by decide +kernel)⟩
theorem lw_p111 : lw_okq (⟨"BelfryBoxModel", "pull", "()I"⟩, 79) := ⟨⟨by decide +kernel, by decide +kernel⟩, List.mem_of_getElem? (i := 1001) (by decide +kernel), List.mem_of_getElem? (i := 1381) (by decide +kernel), List.mem_of_getElem? (i := 1382) (by decide +kernel)⟩
def lw_privs_7 : List (MethodName × Nat) := [(⟨"BelfryBoxModel", "behind", "()I"⟩, 79), (⟨"BelfryBoxModel", "place", "(I)I"⟩, 79), (⟨"BelfryBoxModel", "get", "(I)I"⟩, 79), (⟨"BelfryBoxModel", "taken", "(I)I"⟩, 79), (⟨"BelfryBoxModel", "quiet", "()I"⟩, 79), (⟨"BelfryBoxModel", "firstKey", "()I"⟩, 79), (⟨"BelfryBoxModel", "valued", "(II)I"⟩, 79), (⟨"BelfryBoxModel", "signed", "(I)I"⟩, 79), (⟨"BelfryBoxModel", "sum", "(II)I"⟩, 79), (⟨"BelfryBoxModel", "compare", "(II)V"⟩, 79), (⟨"BelfryBoxModel", "divide", "(I)V"⟩, 79), (⟨"BelfryBoxModel", "more", "(II)I"⟩, 79), (⟨"BelfryBoxModel", "placed", "(II)I"⟩, 79), (⟨"BelfryBoxModel", "own", "(I)I"⟩, 79), (⟨"BelfryBoxModel", "comesBack", "()V"⟩, 79), (⟨"BelfryBoxModel", "pull", "()I"⟩, 79)]
theorem lw_r7 : ∀ q ∈ lw_privs_7, lw_okq q := List.forall_mem_cons.mpr ⟨lw_p96, List.forall_mem_cons.mpr ⟨lw_p97, List.forall_mem_cons.mpr ⟨lw_p98, List.forall_mem_cons.mpr ⟨lw_p99, List.forall_mem_cons.mpr ⟨lw_p100, List.forall_mem_cons.mpr ⟨lw_p101, List.forall_mem_cons.mpr ⟨lw_p102, List.forall_mem_cons.mpr ⟨lw_p103, List.forall_mem_cons.mpr ⟨lw_p104, List.forall_mem_cons.mpr ⟨lw_p105, List.forall_mem_cons.mpr ⟨lw_p106, List.forall_mem_cons.mpr ⟨lw_p107, List.forall_mem_cons.mpr ⟨lw_p108, List.forall_mem_cons.mpr ⟨lw_p109, List.forall_mem_cons.mpr ⟨lw_p110, List.forall_mem_cons.mpr ⟨lw_p111, fun _ h => absurd h List.not_mem_nil⟩⟩⟩⟩⟩⟩⟩⟩⟩⟩⟩⟩⟩⟩⟩⟩
theorem lw_p112 : lw_okq (⟨"BelfryBoxModel", "takeFlags", "(I)V"⟩, 79) := ⟨⟨by decide +kernel, by decide +kernel⟩, List.mem_of_getElem? (i := 1001) (by decide +kernel), List.mem_of_getElem? (i := 1385) (by decide +kernel), List.mem_of_getElem? (i := 1386) (by decide +kernel)⟩
theorem lw_p113 : lw_okq (⟨"BelfryBoxModel", "alone", "(I)V"⟩, 79) := ⟨⟨by decide +kernel, by decide +kernel⟩, List.mem_of_getElem? (i := 1001) (by decide +kernel), List.mem_of_getElem? (i := 1389) (by decide +kernel), List.mem_of_getElem? (i := 1390) (by decide +kernel)⟩
theorem lw_p114 : lw_okq (⟨"BelfryBoxModel", "packed", "()V"⟩, 79) := ⟨⟨by decide +kernel, by decide +kernel⟩, List.mem_of_getElem? (i := 1001) (by decide +kernel), List.mem_of_getElem? (i := 1393) (by decide +kernel), List.mem_of_getElem? (i := 1394) (by decide +kernel)⟩
theorem lw_p115 : lw_okq (⟨"BelfryBoxModel", "byByte", "(II)I"⟩, 79) := ⟨⟨by decide +kernel, by decide +kernel⟩, List.mem_of_getElem? (i := 1001) (by decide +kernel), List.mem_of_getElem? (i := 1397) (by decide +kernel), List.mem_of_getElem? (i := 1398) (by decide +kernel)⟩
theorem lw_p116 : lw_okq (⟨"BelfryBoxModel", "goes", "(I)Z"⟩, 79) := ⟨⟨by decide +kernel, by decide +kernel⟩, List.mem_of_getElem? (i := 1001) (by decide +kernel), List.mem_of_getElem? (i := 1401) (by decide +kernel), List.mem_of_getElem? (i := 1402) (by decide +kernel)⟩
theorem lw_p117 : lw_okq (⟨"BelfryBoxModel", "pass", "()Z"⟩, 79) := ⟨⟨by decide +kernel, by decide +kernel⟩, List.mem_of_getElem? (i := 1001) (by decide +kernel), List.mem_of_getElem? (i := 1405) (by decide +kernel), List.mem_of_getElem? (i := 1406) (by decide +kernel)⟩
theorem lw_p118 : lw_okq (⟨"BelfryBoxModel", "takeBack", "()V"⟩, 79) := ⟨⟨by decide +kernel, by decide +kernel⟩, List.mem_of_getElem? (i := 1001) (by decide +kernel), List.mem_of_getElem? (i := 1413) (by decide +kernel), List.mem_of_getElem? (i := 1414) (by decide +kernel)⟩
theorem lw_p119 : lw_okq (⟨"BelfryBoxModel", "read", "(Z)Z"⟩, 79) := ⟨⟨by decide +kernel, by decide +kernel⟩, List.mem_of_getElem? (i := 1001) (by decide +kernel), List.mem_of_getElem? (i := 1448) (by decide +kernel), List.mem_of_getElem? (i := 1449) (by decide +kernel)⟩
theorem lw_p120 : lw_okq (⟨"BelfryBoxModel", "second", "()Z"⟩, 79) := ⟨⟨by decide +kernel, by decide +kernel⟩, List.mem_of_getElem? (i := 1001) (by decide +kernel), List.mem_of_getElem? (i := 1452) (by decide +kernel), List.mem_of_getElem? (i := 1453) (by decide +kernel)⟩
theorem lw_p121 : lw_okq (⟨"BelfryBoxModel", "line", "()V"⟩, 79) := ⟨⟨by decide +kernel, by decide +kernel⟩, List.mem_of_getElem? (i := 1001) (by decide +kernel), List.mem_of_getElem? (i := 1456) (by decide +kernel), List.mem_of_getElem? (i := 1457) (by decide +kernel)⟩
theorem lw_p122 : lw_okq (⟨"BelfryBoxModel", "skip", "()V"⟩, 79) := ⟨⟨by decide +kernel, by decide +kernel⟩, List.mem_of_getElem? (i := 1001) (by decide +kernel), List.mem_of_getElem? (i := 1460) (by decide +kernel), List.mem_of_getElem? (i := 1461) (by decide +kernel)⟩
theorem lw_p123 : lw_okq (⟨"BelfryBoxModel", "sign", "(I)I"⟩, 79) := ⟨⟨by decide +kernel, by decide +kernel⟩, List.mem_of_getElem? (i := 1001) (by decide +kernel), List.mem_of_getElem? (i := 1464) (by decide +kernel), List.mem_of_getElem? (i := 1465) (by decide +kernel)⟩
theorem lw_p124 : lw_okq (⟨"BelfryBoxModel", "nameEnd", "(I)I"⟩, 79) := ⟨⟨by decide +kernel, by decide +kernel⟩, List.mem_of_getElem? (i := 1001) (by decide +kernel), List.mem_of_getElem? (i := 1471) (by decide +kernel), List.mem_of_getElem? (i := 1472) (by decide +kernel)⟩
theorem lw_p125 : lw_okq (⟨"BelfryBoxModel", "wordOf", "(II)I"⟩, 79) := ⟨⟨by decide +kernel, by decide +kernel⟩, List.mem_of_getElem? (i := 1001) (by decide +kernel), List.mem_of_getElem? (i := 1478) (by decide +kernel), List.mem_of_getElem? (i := 1479) (by decide +kernel)⟩
theorem lw_p126 : lw_okq (⟨"BelfryBoxModel", "isLong", "(I)Z"⟩, 79) := ⟨⟨by decide +kernel, by decide +kernel⟩, List.mem_of_getElem? (i := 1001) (by decide +kernel), List.mem_of_getElem? (i := 1482) (by decide +kernel), List.mem_of_getElem? (i := 1483) (by decide +kernel)⟩
theorem lw_p127 : lw_okq (⟨"BelfryBoxModel", "worded", "()V"⟩, 79) := ⟨⟨by decide +kernel, by decide +kernel⟩, List.mem_of_getElem? (i := 1001) (by decide +kernel), List.mem_of_getElem? (i := 1486) (by decide +kernel), List.mem_of_getElem? (i := 1487) (by decide +kernel)⟩
def lw_privs_8 : List (MethodName × Nat) := [(⟨"BelfryBoxModel", "takeFlags", "(I)V"⟩, 79), (⟨"BelfryBoxModel", "alone", "(I)V"⟩, 79), (⟨"BelfryBoxModel", "packed", "()V"⟩, 79), (⟨"BelfryBoxModel", "byByte", "(II)I"⟩, 79), (⟨"BelfryBoxModel", "goes", "(I)Z"⟩, 79), (⟨"BelfryBoxModel", "pass", "()Z"⟩, 79), (⟨"BelfryBoxModel", "takeBack", "()V"⟩, 79), (⟨"BelfryBoxModel", "read", "(Z)Z"⟩, 79), (⟨"BelfryBoxModel", "second", "()Z"⟩, 79), (⟨"BelfryBoxModel", "line", "()V"⟩, 79), (⟨"BelfryBoxModel", "skip", "()V"⟩, 79), (⟨"BelfryBoxModel", "sign", "(I)I"⟩, 79), (⟨"BelfryBoxModel", "nameEnd", "(I)I"⟩, 79), (⟨"BelfryBoxModel", "wordOf", "(II)I"⟩, 79), (⟨"BelfryBoxModel", "isLong", "(I)Z"⟩, 79), (⟨"BelfryBoxModel", "worded", "()V"⟩, 79)]
theorem lw_r8 : ∀ q ∈ lw_privs_8, lw_okq q := List.forall_mem_cons.mpr ⟨lw_p112, List.forall_mem_cons.mpr ⟨lw_p113, List.forall_mem_cons.mpr ⟨lw_p114, List.forall_mem_cons.mpr ⟨lw_p115, List.forall_mem_cons.mpr ⟨lw_p116, List.forall_mem_cons.mpr ⟨lw_p117, List.forall_mem_cons.mpr ⟨lw_p118, List.forall_mem_cons.mpr ⟨lw_p119, List.forall_mem_cons.mpr ⟨lw_p120, List.forall_mem_cons.mpr ⟨lw_p121, List.forall_mem_cons.mpr ⟨lw_p122, List.forall_mem_cons.mpr ⟨lw_p123, List.forall_mem_cons.mpr ⟨lw_p124, List.forall_mem_cons.mpr ⟨lw_p125, List.forall_mem_cons.mpr ⟨lw_p126, List.forall_mem_cons.mpr ⟨lw_p127, fun _ h => absurd h List.not_mem_nil⟩⟩⟩⟩⟩⟩⟩⟩⟩⟩⟩⟩⟩⟩⟩⟩
theorem lw_p128 : lw_okq (⟨"BelfryBoxModel", "bad", "(I)V"⟩, 79) := ⟨⟨by decide +kernel, by decide +kernel⟩, List.mem_of_getElem? (i := 1001) (by decide +kernel), List.mem_of_getElem? (i := 1490) (by decide +kernel), List.mem_of_getElem? (i := 1491) (by decide +kernel)⟩
theorem lw_p129 : lw_okq (⟨"BelfryBoxModel", "operands", "()V"⟩, 79) := ⟨⟨by decide +kernel, by decide +kernel⟩, List.mem_of_getElem? (i := 1001) (by decide +kernel), List.mem_of_getElem? (i := 1494) (by decide +kernel), List.mem_of_getElem? (i := 1495) (by decide +kernel)⟩
theorem lw_p130 : lw_okq (⟨"BelfryBoxModel", "expression", "()I"⟩, 79) := ⟨⟨by decide +kernel, by decide +kernel⟩, List.mem_of_getElem? (i := 1001) (by decide +kernel), List.mem_of_getElem? (i := 1498) (by decide +kernel), List.mem_of_getElem? (i := 1499) (by decide +kernel)⟩
theorem lw_p131 : lw_okq (⟨"BelfryBoxModel", "term", "()I"⟩, 79) := ⟨⟨by decide +kernel, by decide +kernel⟩, List.mem_of_getElem? (i := 1001) (by decide +kernel), List.mem_of_getElem? (i := 1502) (by decide +kernel), List.mem_of_getElem? (i := 1503) (by decide +kernel)⟩
theorem lw_p132 : lw_okq (⟨"BelfryBoxModel", "plainTerm", "()I"⟩, 79) := ⟨⟨by decide +kernel, by decide +kernel⟩, List.mem_of_getElem? (i := 1001) (by decide +kernel), List.mem_of_getElem? (i := 1506) (by decide +kernel), List.mem_of_getElem? (i := 1507) (by decide +kernel)⟩
theorem lw_p133 : lw_okq (⟨"BelfryBoxModel", "number", "(III)I"⟩, 79) := ⟨⟨by decide +kernel, by decide +kernel⟩, List.mem_of_getElem? (i := 1001) (by decide +kernel), List.mem_of_getElem? (i := 1510) (by decide +kernel), List.mem_of_getElem? (i := 1511) (by decide +kernel)⟩
theorem lw_p134 : lw_okq (⟨"BelfryBoxModel", "isNoName", "(II)Z"⟩, 79) := ⟨⟨by decide +kernel, by decide +kernel⟩, List.mem_of_getElem? (i := 1001) (by decide +kernel), List.mem_of_getElem? (i := 1517) (by decide +kernel), List.mem_of_getElem? (i := 1518) (by decide +kernel)⟩
theorem lw_p135 : lw_okq (⟨"BelfryBoxModel", "isSingle", "(III)Z"⟩, 79) := ⟨⟨by decide +kernel, by decide +kernel⟩, List.mem_of_getElem? (i := 1001) (by decide +kernel), List.mem_of_getElem? (i := 1521) (by decide +kernel), List.mem_of_getElem? (i := 1522) (by decide +kernel)⟩
theorem lw_p136 : lw_okq (⟨"BelfryBoxModel", "valueOf", "(II)I"⟩, 79) := ⟨⟨by decide +kernel, by decide +kernel⟩, List.mem_of_getElem? (i := 1001) (by decide +kernel), List.mem_of_getElem? (i := 1525) (by decide +kernel), List.mem_of_getElem? (i := 1526) (by decide +kernel)⟩
theorem lw_p137 : lw_okq (⟨"BelfryBoxModel", "isNamed", "(III)Z"⟩, 79) := ⟨⟨by decide +kernel, by decide +kernel⟩, List.mem_of_getElem? (i := 1001) (by decide +kernel), List.mem_of_getElem? (i := 1529) (by decide +kernel), List.mem_of_getElem? (i := 1530) (by decide +kernel)⟩
theorem lw_p138 : lw_okq (⟨"BelfryBoxModel", "list", "(Z)V"⟩, 79) := ⟨⟨by decide +kernel, by decide +kernel⟩, List.mem_of_getElem? (i := 1001) (by decide +kernel), List.mem_of_getElem? (i := 1533) (by decide +kernel), List.mem_of_getElem? (i := 1534) (by decide +kernel)⟩
theorem lw_p139 : lw_okq (⟨"BelfryBoxModel", "ranged", "(III)V"⟩, 79) := ⟨⟨by decide +kernel, by decide +kernel⟩, List.mem_of_getElem? (i := 1001) (by decide +kernel), List.mem_of_getElem? (i := 1538) (by decide +kernel), List.mem_of_getElem? (i := 1539) (by decide +kernel)⟩
theorem lw_p140 : lw_okq (⟨"BelfryBoxModel", "lay", "(I)V"⟩, 79) := ⟨⟨by decide +kernel, by decide +kernel⟩, List.mem_of_getElem? (i := 1001) (by decide +kernel), List.mem_of_getElem? (i := 1542) (by decide +kernel), List.mem_of_getElem? (i := 1543) (by decide +kernel)⟩
theorem lw_p141 : lw_okq (⟨"BelfryBoxModel", "quoted", "()V"⟩, 79) := ⟨⟨by decide +kernel, by decide +kernel⟩, List.mem_of_getElem? (i := 1001) (by decide +kernel), List.mem_of_getElem? (i := 1546) (by decide +kernel), List.mem_of_getElem? (i := 1547) (by decide +kernel)⟩
theorem lw_p142 : lw_okq (⟨"BelfryBoxModel", "coded", "()V"⟩, 79) := ⟨⟨by decide +kernel, by decide +kernel⟩, List.mem_of_getElem? (i := 1001) (by decide +kernel), List.mem_of_getElem? (i := 1550) (by decide +kernel), List.mem_of_getElem? (i := 1551) (by decide +kernel)⟩
theorem lw_p143 : lw_okq (⟨"BelfryBoxModel", "any", "(Z)I"⟩, 79) := ⟨⟨by decide +kernel, by decide +kernel⟩, List.mem_of_getElem? (i := 1001) (by decide +kernel), List.mem_of_getElem? (i := 1554) (by decide +kernel), List.mem_of_getElem? (i := 1555) (by decide +kernel)⟩
def lw_privs_9 : List (MethodName × Nat) := [(⟨"BelfryBoxModel", "bad", "(I)V"⟩, 79), (⟨"BelfryBoxModel", "operands", "()V"⟩, 79), (⟨"BelfryBoxModel", "expression", "()I"⟩, 79), (⟨"BelfryBoxModel", "term", "()I"⟩, 79), (⟨"BelfryBoxModel", "plainTerm", "()I"⟩, 79), (⟨"BelfryBoxModel", "number", "(III)I"⟩, 79), (⟨"BelfryBoxModel", "isNoName", "(II)Z"⟩, 79), (⟨"BelfryBoxModel", "isSingle", "(III)Z"⟩, 79), (⟨"BelfryBoxModel", "valueOf", "(II)I"⟩, 79), (⟨"BelfryBoxModel", "isNamed", "(III)Z"⟩, 79), (⟨"BelfryBoxModel", "list", "(Z)V"⟩, 79), (⟨"BelfryBoxModel", "ranged", "(III)V"⟩, 79), (⟨"BelfryBoxModel", "lay", "(I)V"⟩, 79), (⟨"BelfryBoxModel", "quoted", "()V"⟩, 79), (⟨"BelfryBoxModel", "coded", "()V"⟩, 79), (⟨"BelfryBoxModel", "any", "(Z)I"⟩, 79)]
theorem lw_r9 : ∀ q ∈ lw_privs_9, lw_okq q := List.forall_mem_cons.mpr ⟨lw_p128, List.forall_mem_cons.mpr ⟨lw_p129, List.forall_mem_cons.mpr ⟨lw_p130, List.forall_mem_cons.mpr ⟨lw_p131, List.forall_mem_cons.mpr ⟨lw_p132, List.forall_mem_cons.mpr ⟨lw_p133, List.forall_mem_cons.mpr ⟨lw_p134, List.forall_mem_cons.mpr ⟨lw_p135, List.forall_mem_cons.mpr ⟨lw_p136, List.forall_mem_cons.mpr ⟨lw_p137, List.forall_mem_cons.mpr ⟨lw_p138, List.forall_mem_cons.mpr ⟨lw_p139, List.forall_mem_cons.mpr ⟨lw_p140, List.forall_mem_cons.mpr ⟨lw_p141, List.forall_mem_cons.mpr ⟨lw_p142, List.forall_mem_cons.mpr ⟨lw_p143, fun _ h => absurd h List.not_mem_nil⟩⟩⟩⟩⟩⟩⟩⟩⟩⟩⟩⟩⟩⟩⟩⟩
theorem lw_p144 : lw_okq (⟨"BelfryBoxModel", "letter", "(II)V"⟩, 79) := ⟨⟨by decide +kernel, by decide +kernel⟩, List.mem_of_getElem? (i := 1001) (by decide +kernel), List.mem_of_getElem? (i := 1558) (by decide +kernel), List.mem_of_getElem? (i := 1559) (by decide +kernel)⟩
theorem lw_p145 : lw_okq (⟨"BelfryBoxModel", "stepped", "()V"⟩, 79) := ⟨⟨by decide +kernel, by decide +kernel⟩, List.mem_of_getElem? (i := 1001) (by decide +kernel), List.mem_of_getElem? (i := 1562) (by decide +kernel), List.mem_of_getElem? (i := 1563) (by decide +kernel)⟩
theorem lw_p146 : lw_okq (⟨"BelfryBoxModel", "numbered", "()V"⟩, 79) := ⟨⟨by decide +kernel, by decide +kernel⟩, List.mem_of_getElem? (i := 1001) (by decide +kernel), List.mem_of_getElem? (i := 1566) (by decide +kernel), List.mem_of_getElem? (i := 1567) (by decide +kernel)⟩
theorem lw_p147 : lw_okq (⟨"BelfryBoxModel", "named", "(II)V"⟩, 79) := ⟨⟨by decide +kernel, by decide +kernel⟩, List.mem_of_getElem? (i := 1001) (by decide +kernel), List.mem_of_getElem? (i := 1570) (by decide +kernel), List.mem_of_getElem? (i := 1571) (by decide +kernel)⟩
theorem lw_p148 : lw_okq (⟨"BelfryBoxModel", "isLineEnd", "(I)Z"⟩, 79) := ⟨⟨by decide +kernel, by decide +kernel⟩, List.mem_of_getElem? (i := 1001) (by decide +kernel), List.mem_of_getElem? (i := 1574) (by decide +kernel), List.mem_of_getElem? (i := 1575) (by decide +kernel)⟩
theorem lw_p149 : lw_okq (⟨"BelfryBoxModel", "faulty", "(II)Z"⟩, 79) := ⟨⟨by decide +kernel, by decide +kernel⟩, List.mem_of_getElem? (i := 1001) (by decide +kernel), List.mem_of_getElem? (i := 1578) (by decide +kernel), List.mem_of_getElem? (i := 1579) (by decide +kernel)⟩
theorem lw_p150 : lw_okq (⟨"BelfryBoxModel", "first", "()Z"⟩, 79) := ⟨⟨by decide +kernel, by decide +kernel⟩, List.mem_of_getElem? (i := 1001) (by decide +kernel), List.mem_of_getElem? (i := 1582) (by decide +kernel), List.mem_of_getElem? (i := 1583) (by decide +kernel)⟩
theorem lw_p151 : lw_okq (⟨"BelfryBoxModel", "isTold", "(II)Z"⟩, 79) := ⟨⟨by decide +kernel, by decide +kernel⟩, List.mem_of_getElem? (i := 1001) (by decide +kernel), List.mem_of_getElem? (i := 1586) (by decide +kernel), List.mem_of_getElem? (i := 1587) (by decide +kernel)⟩
theorem lw_p152 : lw_okq (⟨"BelfryBoxModel", "tellWord", "(I)V"⟩, 79) := ⟨⟨by decide +kernel, by decide +kernel⟩, List.mem_of_getElem? (i := 1001) (by decide +kernel), List.mem_of_getElem? (i := 1602) (by decide +kernel), List.mem_of_getElem? (i := 1603) (by decide +kernel)⟩
theorem lw_p153 : lw_okq (⟨"BelfryBoxModel", "tell", "(I)V"⟩, 79) := ⟨⟨by decide +kernel, by decide +kernel⟩, List.mem_of_getElem? (i := 1001) (by decide +kernel), List.mem_of_getElem? (i := 1606) (by decide +kernel), List.mem_of_getElem? (i := 1607) (by decide +kernel)⟩
theorem lw_p154 : lw_okq (⟨"BelfryBoxModel", "tellWay", "(II)V"⟩, 79) := ⟨⟨by decide +kernel, by decide +kernel⟩, List.mem_of_getElem? (i := 1001) (by decide +kernel), List.mem_of_getElem? (i := 1610) (by decide +kernel), List.mem_of_getElem? (i := 1611) (by decide +kernel)⟩
theorem lw_p155 : lw_okq (⟨"BelfryBoxModel", "tellNumber", "(I)V"⟩, 79) := ⟨⟨by decide +kernel, by decide +kernel⟩, List.mem_of_getElem? (i := 1001) (by decide +kernel), List.mem_of_getElem? (i := 1614) (by decide +kernel), List.mem_of_getElem? (i := 1615) (by decide +kernel)⟩
theorem lw_p156 : lw_okq (⟨"BelfryBoxModel", "tellStep", "(I)V"⟩, 79) := ⟨⟨by decide +kernel, by decide +kernel⟩, List.mem_of_getElem? (i := 1001) (by decide +kernel), List.mem_of_getElem? (i := 1618) (by decide +kernel), List.mem_of_getElem? (i := 1619) (by decide +kernel)⟩
def lw_privs_10 : List (MethodName × Nat) := [(⟨"BelfryBoxModel", "letter", "(II)V"⟩, 79), (⟨"BelfryBoxModel", "stepped", "()V"⟩, 79), (⟨"BelfryBoxModel", "numbered", "()V"⟩, 79), (⟨"BelfryBoxModel", "named", "(II)V"⟩, 79), (⟨"BelfryBoxModel", "isLineEnd", "(I)Z"⟩, 79), (⟨"BelfryBoxModel", "faulty", "(II)Z"⟩, 79), (⟨"BelfryBoxModel", "first", "()Z"⟩, 79), (⟨"BelfryBoxModel", "isTold", "(II)Z"⟩, 79), (⟨"BelfryBoxModel", "tellWord", "(I)V"⟩, 79), (⟨"BelfryBoxModel", "tell", "(I)V"⟩, 79), (⟨"BelfryBoxModel", "tellWay", "(II)V"⟩, 79), (⟨"BelfryBoxModel", "tellNumber", "(I)V"⟩, 79), (⟨"BelfryBoxModel", "tellStep", "(I)V"⟩, 79)]
theorem lw_r10 : ∀ q ∈ lw_privs_10, lw_okq q := List.forall_mem_cons.mpr ⟨lw_p144, List.forall_mem_cons.mpr ⟨lw_p145, List.forall_mem_cons.mpr ⟨lw_p146, List.forall_mem_cons.mpr ⟨lw_p147, List.forall_mem_cons.mpr ⟨lw_p148, List.forall_mem_cons.mpr ⟨lw_p149, List.forall_mem_cons.mpr ⟨lw_p150, List.forall_mem_cons.mpr ⟨lw_p151, List.forall_mem_cons.mpr ⟨lw_p152, List.forall_mem_cons.mpr ⟨lw_p153, List.forall_mem_cons.mpr ⟨lw_p154, List.forall_mem_cons.mpr ⟨lw_p155, List.forall_mem_cons.mpr ⟨lw_p156, fun _ h => absurd h List.not_mem_nil⟩⟩⟩⟩⟩⟩⟩⟩⟩⟩⟩⟩⟩
def lw_privs : List (MethodName × Nat) := lw_privs_1 ++ (lw_privs_2 ++ (lw_privs_3 ++ (lw_privs_4 ++ (lw_privs_5 ++ (lw_privs_6 ++ (lw_privs_7 ++ (lw_privs_8 ++ (lw_privs_9 ++ (lw_privs_10)))))))))
def lw_tbl : List Cond := k2_sels lw_privs ++ tables_1
theorem lw_privs_ok : ∀ q ∈ lw_privs, lw_okq q := by
  show ∀ q ∈ lw_privs_1 ++ (lw_privs_2 ++ (lw_privs_3 ++ (lw_privs_4 ++ (lw_privs_5 ++ (lw_privs_6 ++ (lw_privs_7 ++ (lw_privs_8 ++ (lw_privs_9 ++ (lw_privs_10))))))))), lw_okq q
  exact List.forall_mem_append.mpr ⟨lw_r1, List.forall_mem_append.mpr ⟨lw_r2, List.forall_mem_append.mpr ⟨lw_r3, List.forall_mem_append.mpr ⟨lw_r4, List.forall_mem_append.mpr ⟨lw_r5, List.forall_mem_append.mpr ⟨lw_r6, List.forall_mem_append.mpr ⟨lw_r7, List.forall_mem_append.mpr ⟨lw_r8, List.forall_mem_append.mpr ⟨lw_r9, lw_r10⟩⟩⟩⟩⟩⟩⟩⟩⟩
end
section
def RX0 : String := "BelfryBox$Assembler"
def TX0 : u_T := fun k => match k with
  | 0 => ("BelfryBox$Assembler", "tape", "LBelfryBox$Tape;", true)
  | 1 => ("BelfryBox$Assembler", "image", "[I", true)
  | 2 => ("BelfryBox$Assembler", "told", "LBelfryBox$Names;", false)
  | 3 => ("BelfryBox$Assembler", "settled", "LBelfryBox$Names;", false)
  | 4 => ("BelfryBox$Assembler", "faultKind", "I", false)
  | 5 => ("BelfryBox$Assembler", "faultPlace", "I", false)
  | 6 => ("BelfryBox$Assembler", "address", "I", false)
  | 7 => ("BelfryBox$Assembler", "laying", "Z", false)
  | 8 => ("BelfryBox$Assembler", "namePlace", "I", false)
  | 9 => ("BelfryBox$Assembler", "nameLetters", "I", false)
  | 10 => ("BelfryBox$Assembler", "equation", "Z", false)
  | 11 => ("BelfryBox$Assembler", "word", "I", false)
  | 12 => ("BelfryBox$Assembler", "wordPlace", "I", false)
  | 13 => ("BelfryBox$Assembler", "size", "I", false)
  | 14 => ("BelfryBox$Assembler", "sum", "I", false)
  | 15 => ("BelfryBox$Assembler", "sumPlace", "I", false)
  | 16 => ("BelfryBox$Assembler", "unknownPlace", "I", false)
  | _ => ("BelfryBox$Assembler", "rangePlace", "I", false)
def tyX0 : Nat → FieldType := fun k => match k with
  | 0 => .object "BelfryBox$Tape"
  | 1 => .array .int
  | 2 => .object "BelfryBox$Names"
  | 3 => .object "BelfryBox$Names"
  | 4 => .int
  | 5 => .int
  | 6 => .int
  | 7 => .boolean
  | 8 => .int
  | 9 => .int
  | 10 => .boolean
  | 11 => .int
  | 12 => .int
  | 13 => .int
  | 14 => .int
  | 15 => .int
  | 16 => .int
  | _ => .int
theorem nmX0 : ∀ a, a < 18 → ∀ b, b < 18 → a ≠ b → (TX0 a).2.1 ≠ (TX0 b).2.1 := by decide +kernel
theorem tyX0_ok : ∀ k, k < 18 → parseFieldDescriptor (TX0 k).2.2.1 = some (tyX0 k) := by decide +kernel
def RX1 : String := "BelfryBox$Devices"
def TX1 : u_T := fun k => match k with
  | 0 => ("BelfryBox$Devices", "now", "[I", true)
  | 1 => ("BelfryBox$Devices", "pins", "[I", true)
  | 2 => ("BelfryBox$Devices", "waiting", "[I", true)
  | 3 => ("BelfryBox$Devices", "rings", "[I", true)
  | _ => ("BelfryBox$Devices", "paper", "[I", true)
def tyX1 : Nat → FieldType := fun k => match k with
  | 0 => .array .int
  | 1 => .array .int
  | 2 => .array .int
  | 3 => .array .int
  | _ => .array .int
theorem nmX1 : ∀ a, a < 5 → ∀ b, b < 5 → a ≠ b → (TX1 a).2.1 ≠ (TX1 b).2.1 := by decide +kernel
theorem tyX1_ok : ∀ k, k < 5 → parseFieldDescriptor (TX1 k).2.2.1 = some (tyX1 k) := by decide +kernel
def RX2 : String := "BelfryBox$Names"
def TX2 : u_T := fun k => match k with
  | 0 => ("BelfryBox$Names", "places", "[I", true)
  | 1 => ("BelfryBox$Names", "letters", "[I", true)
  | 2 => ("BelfryBox$Names", "values", "[I", true)
  | 3 => ("BelfryBox$Names", "equations", "[I", true)
  | _ => ("BelfryBox$Names", "count", "I", false)
def tyX2 : Nat → FieldType := fun k => match k with
  | 0 => .array .int
  | 1 => .array .int
  | 2 => .array .int
  | 3 => .array .int
  | _ => .int
theorem nmX2 : ∀ a, a < 5 → ∀ b, b < 5 → a ≠ b → (TX2 a).2.1 ≠ (TX2 b).2.1 := by decide +kernel
theorem tyX2_ok : ∀ k, k < 5 → parseFieldDescriptor (TX2 k).2.2.1 = some (tyX2 k) := by decide +kernel
def RX3 : String := "BelfryBox$Past"
def TX3 : u_T := fun k => match k with
  | 0 => ("BelfryBox$Past", "entries", "[I", true)
  | 1 => ("BelfryBox$Past", "latest", "I", false)
  | _ => ("BelfryBox$Past", "kept", "I", false)
def tyX3 : Nat → FieldType := fun k => match k with
  | 0 => .array .int
  | 1 => .int
  | _ => .int
theorem nmX3 : ∀ a, a < 3 → ∀ b, b < 3 → a ≠ b → (TX3 a).2.1 ≠ (TX3 b).2.1 := by decide +kernel
theorem tyX3_ok : ∀ k, k < 3 → parseFieldDescriptor (TX3 k).2.2.1 = some (tyX3 k) := by decide +kernel
def RX4 : String := "BelfryBox$Processor"
def TX4 : u_T := fun k => match k with
  | 0 => ("BelfryBox$Processor", "now", "[I", true)
  | 1 => ("BelfryBox$Processor", "store", "[I", true)
  | 2 => ("BelfryBox$Processor", "devices", "LBelfryBox$Devices;", true)
  | 3 => ("BelfryBox$Processor", "past", "LBelfryBox$Past;", true)
  | 4 => ("BelfryBox$Processor", "counts", "[I", true)
  | 5 => ("BelfryBox$Processor", "why", "I", false)
  | _ => ("BelfryBox$Processor", "done", "I", false)
def tyX4 : Nat → FieldType := fun k => match k with
  | 0 => .array .int
  | 1 => .array .int
  | 2 => .object "BelfryBox$Devices"
  | 3 => .object "BelfryBox$Past"
  | 4 => .array .int
  | 5 => .int
  | _ => .int
theorem nmX4 : ∀ a, a < 7 → ∀ b, b < 7 → a ≠ b → (TX4 a).2.1 ≠ (TX4 b).2.1 := by decide +kernel
theorem tyX4_ok : ∀ k, k < 7 → parseFieldDescriptor (TX4 k).2.2.1 = some (tyX4 k) := by decide +kernel
def RX5 : String := "BelfryBox$Reader"
def TX5 : u_T := fun k => match k with
  | 0 => ("BelfryBox$Reader", "letters", "[I", true)
  | _ => ("BelfryBox$Reader", "length", "I", false)
def tyX5 : Nat → FieldType := fun k => match k with
  | 0 => .array .int
  | _ => .int
theorem nmX5 : ∀ a, a < 2 → ∀ b, b < 2 → a ≠ b → (TX5 a).2.1 ≠ (TX5 b).2.1 := by decide +kernel
theorem tyX5_ok : ∀ k, k < 2 → parseFieldDescriptor (TX5 k).2.2.1 = some (tyX5 k) := by decide +kernel
def RX6 : String := "BelfryBox$Stops"
def TX6 : u_T := fun k => match k with
  | 0 => ("BelfryBox$Stops", "places", "[I", true)
  | _ => ("BelfryBox$Stops", "count", "I", false)
def tyX6 : Nat → FieldType := fun k => match k with
  | 0 => .array .int
  | _ => .int
theorem nmX6 : ∀ a, a < 2 → ∀ b, b < 2 → a ≠ b → (TX6 a).2.1 ≠ (TX6 b).2.1 := by decide +kernel
theorem tyX6_ok : ∀ k, k < 2 → parseFieldDescriptor (TX6 k).2.2.1 = some (tyX6 k) := by decide +kernel
def RX7 : String := "BelfryBox$Tape"
def TX7 : u_T := fun k => match k with
  | 0 => ("BelfryBox$Tape", "bytes", "[I", true)
  | 1 => ("BelfryBox$Tape", "length", "I", false)
  | 2 => ("BelfryBox$Tape", "lineEnd", "I", false)
  | 3 => ("BelfryBox$Tape", "at", "I", false)
  | 4 => ("BelfryBox$Tape", "kind", "I", false)
  | 5 => ("BelfryBox$Tape", "place", "I", false)
  | 6 => ("BelfryBox$Tape", "letters", "I", false)
  | 7 => ("BelfryBox$Tape", "value", "I", false)
  | _ => ("BelfryBox$Tape", "missing", "I", false)
def tyX7 : Nat → FieldType := fun k => match k with
  | 0 => .array .int
  | 1 => .int
  | 2 => .int
  | 3 => .int
  | 4 => .int
  | 5 => .int
  | 6 => .int
  | 7 => .int
  | _ => .int
theorem nmX7 : ∀ a, a < 9 → ∀ b, b < 9 → a ≠ b → (TX7 a).2.1 ≠ (TX7 b).2.1 := by decide +kernel
theorem tyX7_ok : ∀ k, k < 9 → parseFieldDescriptor (TX7 k).2.2.1 = some (tyX7 k) := by decide +kernel
def RX8 : String := "BelfryBox"
def TX8 : u_T := fun k => match k with
  | 0 => ("BelfryBox", "now", "[I", true)
  | 1 => ("BelfryBox", "store", "[I", true)
  | 2 => ("BelfryBox", "devices", "LBelfryBox$Devices;", true)
  | 3 => ("BelfryBox", "past", "LBelfryBox$Past;", true)
  | 4 => ("BelfryBox", "processor", "LBelfryBox$Processor;", true)
  | 5 => ("BelfryBox", "stops", "LBelfryBox$Stops;", true)
  | 6 => ("BelfryBox", "tape", "LBelfryBox$Tape;", true)
  | 7 => ("BelfryBox", "assembler", "LBelfryBox$Assembler;", true)
  | _ => ("BelfryBox", "reader", "LBelfryBox$Reader;", true)
def tyX8 : Nat → FieldType := fun k => match k with
  | 0 => .array .int
  | 1 => .array .int
  | 2 => .object "BelfryBox$Devices"
  | 3 => .object "BelfryBox$Past"
  | 4 => .object "BelfryBox$Processor"
  | 5 => .object "BelfryBox$Stops"
  | 6 => .object "BelfryBox$Tape"
  | 7 => .object "BelfryBox$Assembler"
  | _ => .object "BelfryBox$Reader"
theorem nmX8 : ∀ a, a < 9 → ∀ b, b < 9 → a ≠ b → (TX8 a).2.1 ≠ (TX8 b).2.1 := by decide +kernel
theorem tyX8_ok : ∀ k, k < 9 → parseFieldDescriptor (TX8 k).2.2.1 = some (tyX8 k) := by decide +kernel
def RX9 : String := "BelfryBoxModel"
def TX9 : u_T := fun k => match k with
  | 0 => ("BelfryBoxModel", "words", "[I", true)
  | 1 => ("BelfryBoxModel", "store", "[I", true)
  | 2 => ("BelfryBoxModel", "a", "I", false)
  | 3 => ("BelfryBoxModel", "x", "I", false)
  | 4 => ("BelfryBoxModel", "y", "I", false)
  | 5 => ("BelfryBoxModel", "s", "I", false)
  | 6 => ("BelfryBoxModel", "p", "I", false)
  | 7 => ("BelfryBoxModel", "n", "I", false)
  | 8 => ("BelfryBoxModel", "v", "I", false)
  | 9 => ("BelfryBoxModel", "i", "I", false)
  | 10 => ("BelfryBoxModel", "z", "I", false)
  | 11 => ("BelfryBoxModel", "c", "I", false)
  | 12 => ("BelfryBoxModel", "cycles", "I", false)
  | 13 => ("BelfryBoxModel", "isHalted", "Z", false)
  | 14 => ("BelfryBoxModel", "load", "I", false)
  | 15 => ("BelfryBoxModel", "count", "I", false)
  | 16 => ("BelfryBoxModel", "runs", "I", false)
  | 17 => ("BelfryBoxModel", "turns", "I", false)
  | 18 => ("BelfryBoxModel", "speed", "I", false)
  | 19 => ("BelfryBoxModel", "part", "I", false)
  | 20 => ("BelfryBoxModel", "row", "I", false)
  | 21 => ("BelfryBoxModel", "came", "I", false)
  | 22 => ("BelfryBoxModel", "mask", "I", false)
  | 23 => ("BelfryBoxModel", "watch", "I", false)
  | 24 => ("BelfryBoxModel", "seed", "I", false)
  | 25 => ("BelfryBoxModel", "keyMany", "I", false)
  | 26 => ("BelfryBoxModel", "keys", "[I", true)
  | 27 => ("BelfryBoxModel", "rests", "[I", true)
  | 28 => ("BelfryBoxModel", "muffled", "I", false)
  | 29 => ("BelfryBoxModel", "lost", "I", false)
  | 30 => ("BelfryBoxModel", "resets", "I", false)
  | 31 => ("BelfryBoxModel", "rings", "I", false)
  | 32 => ("BelfryBoxModel", "strips", "I", false)
  | 33 => ("BelfryBoxModel", "ring", "[I", true)
  | 34 => ("BelfryBoxModel", "strip", "[I", true)
  | 35 => ("BelfryBoxModel", "pins", "[I", true)
  | 36 => ("BelfryBoxModel", "stops", "[Z", true)
  | 37 => ("BelfryBoxModel", "stopMany", "I", false)
  | 38 => ("BelfryBoxModel", "ended", "I", false)
  | 39 => ("BelfryBoxModel", "endedSteps", "I", false)
  | 40 => ("BelfryBoxModel", "done", "[I", true)
  | 41 => ("BelfryBoxModel", "kept", "[I", true)
  | 42 => ("BelfryBoxModel", "keptAt", "I", false)
  | 43 => ("BelfryBoxModel", "keptMany", "I", false)
  | 44 => ("BelfryBoxModel", "at", "I", false)
  | 45 => ("BelfryBoxModel", "writes", "I", false)
  | 46 => ("BelfryBoxModel", "tape", "[I", true)
  | 47 => ("BelfryBoxModel", "taped", "I", false)
  | 48 => ("BelfryBoxModel", "faultKind", "I", false)
  | 49 => ("BelfryBoxModel", "faultPlace", "I", false)
  | 50 => ("BelfryBoxModel", "nameValue", "[I", true)
  | 51 => ("BelfryBoxModel", "namePlace", "[I", true)
  | 52 => ("BelfryBoxModel", "nameEquals", "[I", true)
  | 53 => ("BelfryBoxModel", "nameMany", "I", false)
  | 54 => ("BelfryBoxModel", "out", "[I", true)
  | 55 => ("BelfryBoxModel", "outs", "I", false)
  | 56 => ("BelfryBoxModel", "go", "I", false)
  | 57 => ("BelfryBoxModel", "end", "I", false)
  | 58 => ("BelfryBoxModel", "wrong", "I", false)
  | 59 => ("BelfryBoxModel", "lineName", "I", false)
  | 60 => ("BelfryBoxModel", "lineNameEnd", "I", false)
  | 61 => ("BelfryBoxModel", "word", "I", false)
  | 62 => ("BelfryBoxModel", "wordPlace", "I", false)
  | 63 => ("BelfryBoxModel", "way", "I", false)
  | 64 => ("BelfryBoxModel", "ePlace", "I", false)
  | 65 => ("BelfryBoxModel", "eMany", "I", false)
  | 66 => ("BelfryBoxModel", "textFrom", "I", false)
  | 67 => ("BelfryBoxModel", "here", "I", false)
  | 68 => ("BelfryBoxModel", "unknown", "I", false)
  | 69 => ("BelfryBoxModel", "tellMany", "I", false)
  | 70 => ("BelfryBoxModel", "tellFrom", "[I", true)
  | 71 => ("BelfryBoxModel", "tellEnd", "[I", true)
  | 72 => ("BelfryBoxModel", "tellValue", "[I", true)
  | 73 => ("BelfryBoxModel", "tellEquals", "[I", true)
  | 74 => ("BelfryBoxModel", "laid", "[I", true)
  | 75 => ("BelfryBoxModel", "isSecond", "Z", false)
  | 76 => ("BelfryBoxModel", "laidMany", "I", false)
  | 77 => ("BelfryBoxModel", "rangeFault", "I", false)
  | _ => ("BelfryBoxModel", "told", "I", false)
def tyX9 : Nat → FieldType := fun k => match k with
  | 0 => .array .int
  | 1 => .array .int
  | 2 => .int
  | 3 => .int
  | 4 => .int
  | 5 => .int
  | 6 => .int
  | 7 => .int
  | 8 => .int
  | 9 => .int
  | 10 => .int
  | 11 => .int
  | 12 => .int
  | 13 => .boolean
  | 14 => .int
  | 15 => .int
  | 16 => .int
  | 17 => .int
  | 18 => .int
  | 19 => .int
  | 20 => .int
  | 21 => .int
  | 22 => .int
  | 23 => .int
  | 24 => .int
  | 25 => .int
  | 26 => .array .int
  | 27 => .array .int
  | 28 => .int
  | 29 => .int
  | 30 => .int
  | 31 => .int
  | 32 => .int
  | 33 => .array .int
  | 34 => .array .int
  | 35 => .array .int
  | 36 => .array .boolean
  | 37 => .int
  | 38 => .int
  | 39 => .int
  | 40 => .array .int
  | 41 => .array .int
  | 42 => .int
  | 43 => .int
  | 44 => .int
  | 45 => .int
  | 46 => .array .int
  | 47 => .int
  | 48 => .int
  | 49 => .int
  | 50 => .array .int
  | 51 => .array .int
  | 52 => .array .int
  | 53 => .int
  | 54 => .array .int
  | 55 => .int
  | 56 => .int
  | 57 => .int
  | 58 => .int
  | 59 => .int
  | 60 => .int
  | 61 => .int
  | 62 => .int
  | 63 => .int
  | 64 => .int
  | 65 => .int
  | 66 => .int
  | 67 => .int
  | 68 => .int
  | 69 => .int
  | 70 => .array .int
  | 71 => .array .int
  | 72 => .array .int
  | 73 => .array .int
  | 74 => .array .int
  | 75 => .boolean
  | 76 => .int
  | 77 => .int
  | _ => .int
theorem nmX9 : ∀ a, a < 79 → ∀ b, b < 79 → a ≠ b → (TX9 a).2.1 ≠ (TX9 b).2.1 := by decide +kernel
theorem tyX9_ok : ∀ k, k < 79 → parseFieldDescriptor (TX9 k).2.2.1 = some (tyX9 k) := by decide +kernel
abbrev classes : List vw_C := [(RX0, TX0, 18), (RX1, TX1, 5), (RX2, TX2, 5), (RX3, TX3, 3), (RX4, TX4, 7), (RX5, TX5, 2), (RX6, TX6, 2), (RX7, TX7, 9), (RX8, TX8, 9), (RX9, TX9, 79)]
def gw : List Cond := lw_tbl.filter goodWord
theorem tb1 {w : Cond} (h : w ∈ tables_1_1) : w ∈ tables_1 := (List.mem_append_left _ h)
theorem tb2 {w : Cond} (h : w ∈ tables_1_2) : w ∈ tables_1 := (List.mem_append_right _ (List.mem_append_left _ h))
theorem tb3 {w : Cond} (h : w ∈ tables_1_3) : w ∈ tables_1 := (List.mem_append_right _ (List.mem_append_right _ (List.mem_append_left _ h)))
theorem tb4 {w : Cond} (h : w ∈ tables_1_4) : w ∈ tables_1 := (List.mem_append_right _ (List.mem_append_right _ (List.mem_append_right _ (List.mem_append_left _ h))))
theorem tb5 {w : Cond} (h : w ∈ tables_1_5) : w ∈ tables_1 := (List.mem_append_right _ (List.mem_append_right _ (List.mem_append_right _ (List.mem_append_right _ (List.mem_append_left _ h)))))
theorem tb6 {w : Cond} (h : w ∈ tables_1_6) : w ∈ tables_1 := (List.mem_append_right _ (List.mem_append_right _ (List.mem_append_right _ (List.mem_append_right _ (List.mem_append_right _ (List.mem_append_left _ h))))))
theorem tb7 {w : Cond} (h : w ∈ tables_1_7) : w ∈ tables_1 := (List.mem_append_right _ (List.mem_append_right _ (List.mem_append_right _ (List.mem_append_right _ (List.mem_append_right _ (List.mem_append_right _ h))))))
theorem sl1 {q : MethodName × Nat} (h : q ∈ lw_privs_1) : q ∈ lw_privs := (List.mem_append_left _ h)
theorem sl2 {q : MethodName × Nat} (h : q ∈ lw_privs_2) : q ∈ lw_privs := (List.mem_append_right _ (List.mem_append_left _ h))
theorem sl3 {q : MethodName × Nat} (h : q ∈ lw_privs_3) : q ∈ lw_privs := (List.mem_append_right _ (List.mem_append_right _ (List.mem_append_left _ h)))
theorem sl4 {q : MethodName × Nat} (h : q ∈ lw_privs_4) : q ∈ lw_privs := (List.mem_append_right _ (List.mem_append_right _ (List.mem_append_right _ (List.mem_append_left _ h))))
theorem sl5 {q : MethodName × Nat} (h : q ∈ lw_privs_5) : q ∈ lw_privs := (List.mem_append_right _ (List.mem_append_right _ (List.mem_append_right _ (List.mem_append_right _ (List.mem_append_left _ h)))))
theorem sl6 {q : MethodName × Nat} (h : q ∈ lw_privs_6) : q ∈ lw_privs := (List.mem_append_right _ (List.mem_append_right _ (List.mem_append_right _ (List.mem_append_right _ (List.mem_append_right _ (List.mem_append_left _ h))))))
theorem sl7 {q : MethodName × Nat} (h : q ∈ lw_privs_7) : q ∈ lw_privs := (List.mem_append_right _ (List.mem_append_right _ (List.mem_append_right _ (List.mem_append_right _ (List.mem_append_right _ (List.mem_append_right _ (List.mem_append_left _ h)))))))
theorem sl8 {q : MethodName × Nat} (h : q ∈ lw_privs_8) : q ∈ lw_privs := (List.mem_append_right _ (List.mem_append_right _ (List.mem_append_right _ (List.mem_append_right _ (List.mem_append_right _ (List.mem_append_right _ (List.mem_append_right _ (List.mem_append_left _ h))))))))
theorem sl9 {q : MethodName × Nat} (h : q ∈ lw_privs_9) : q ∈ lw_privs := (List.mem_append_right _ (List.mem_append_right _ (List.mem_append_right _ (List.mem_append_right _ (List.mem_append_right _ (List.mem_append_right _ (List.mem_append_right _ (List.mem_append_right _ (List.mem_append_left _ h)))))))))
theorem sl10 {q : MethodName × Nat} (h : q ∈ lw_privs_10) : q ∈ lw_privs := (List.mem_append_right _ (List.mem_append_right _ (List.mem_append_right _ (List.mem_append_right _ (List.mem_append_right _ (List.mem_append_right _ (List.mem_append_right _ (List.mem_append_right _ (List.mem_append_right _ h)))))))))
def nests : List Cond := [Cond.fieldLinkNest "BelfryBox" 127 "BelfryBox$Devices" "pins" "[I" "BelfryBox", Cond.fieldLinkNest "BelfryBox" 168 "BelfryBox$Devices" "rings" "[I" "BelfryBox", Cond.fieldLinkNest "BelfryBox" 171 "BelfryBox$Devices" "paper" "[I" "BelfryBox", Cond.methodLinkNest "BelfryBox" 27 ⟨"BelfryBox$Past", "<init>", "()V"⟩ "BelfryBox", Cond.fieldLinkNest "BelfryBox" 141 "BelfryBox$Past" "kept" "I" "BelfryBox", Cond.fieldLinkNest "BelfryBox" 144 "BelfryBox$Processor" "counts" "[I" "BelfryBox", Cond.fieldLinkNest "BelfryBox" 158 "BelfryBox$Processor" "why" "I" "BelfryBox", Cond.fieldLinkNest "BelfryBox" 161 "BelfryBox$Processor" "done" "I" "BelfryBox", Cond.methodLinkNest "BelfryBox" 43 ⟨"BelfryBox$Stops", "<init>", "()V"⟩ "BelfryBox", Cond.fieldLinkNest "BelfryBox" 167 "BelfryBox$Stops" "count" "I" "BelfryBox", Cond.methodLinkNest "BelfryBox" 50 ⟨"BelfryBox$Tape", "<init>", "()V"⟩ "BelfryBox", Cond.fieldLinkNest "BelfryBox$Assembler" 166 "BelfryBox$Tape" "bytes" "[I" "BelfryBox", Cond.fieldLinkNest "BelfryBox" 82 "BelfryBox$Tape" "length" "I" "BelfryBox", Cond.fieldLinkNest "BelfryBox$Assembler" 60 "BelfryBox$Tape" "length" "I" "BelfryBox", Cond.fieldLinkNest "BelfryBox$Assembler" 92 "BelfryBox$Tape" "lineEnd" "I" "BelfryBox", Cond.fieldLinkNest "BelfryBox$Assembler" 163 "BelfryBox$Tape" "at" "I" "BelfryBox", Cond.fieldLinkNest "BelfryBox$Assembler" 118 "BelfryBox$Tape" "kind" "I" "BelfryBox", Cond.fieldLinkNest "BelfryBox$Assembler" 111 "BelfryBox$Tape" "place" "I" "BelfryBox", Cond.fieldLinkNest "BelfryBox$Assembler" 121 "BelfryBox$Tape" "letters" "I" "BelfryBox", Cond.fieldLinkNest "BelfryBox$Assembler" 133 "BelfryBox$Tape" "value" "I" "BelfryBox", Cond.fieldLinkNest "BelfryBox$Assembler" 172 "BelfryBox$Tape" "missing" "I" "BelfryBox", Cond.methodLinkNest "BelfryBox$Assembler" 17 ⟨"BelfryBox$Names", "<init>", "()V"⟩ "BelfryBox", Cond.fieldLinkNest "BelfryBox$Assembler" 36 "BelfryBox$Names" "count" "I" "BelfryBox", Cond.fieldLinkNest "BelfryBox" 164 "BelfryBox$Names" "count" "I" "BelfryBox", Cond.fieldLinkNest "BelfryBox" 105 "BelfryBox$Assembler" "settled" "LBelfryBox$Names;" "BelfryBox", Cond.fieldLinkNest "BelfryBox" 99 "BelfryBox$Assembler" "faultKind" "I" "BelfryBox", Cond.fieldLinkNest "BelfryBox" 102 "BelfryBox$Assembler" "faultPlace" "I" "BelfryBox", Cond.fieldLinkNest "BelfryBox" 96 "BelfryBox$Assembler" "address" "I" "BelfryBox", Cond.methodLinkNest "BelfryBox" 66 ⟨"BelfryBox$Reader", "<init>", "()V"⟩ "BelfryBox", Cond.fieldLinkNest "BelfryBox" 178 "BelfryBox$Reader" "letters" "[I" "BelfryBox", Cond.fieldLinkNest "BelfryBox" 177 "BelfryBox$Reader" "length" "I" "BelfryBox", Cond.methodLinkNest "BelfryBox$Assembler" 160 ⟨"BelfryBox", "takesValue", "(I)Z"⟩ "BelfryBox", Cond.methodLinkNest "BelfryBox$Processor" 109 ⟨"BelfryBox", "isShort", "(I)Z"⟩ "BelfryBox", Cond.methodLinkNest "BelfryBox$Processor" 208 ⟨"BelfryBox", "signed", "(I)I"⟩ "BelfryBox", Cond.methodLinkNest "BelfryBox$Reader" 19 ⟨"BelfryBox", "isShort", "(I)Z"⟩ "BelfryBox", Cond.methodLinkNest "BelfryBox$Reader" 50 ⟨"BelfryBox", "takesValue", "(I)Z"⟩ "BelfryBox", Cond.methodLinkNest "BelfryBox$Reader" 53 ⟨"BelfryBox", "signed", "(I)I"⟩ "BelfryBox"]
theorem nests_in : ∀ w ∈ nests, w ∈ tables_1 := by decide +kernel
theorem iX0 : ∀ w ∈ u_ws RX0 TX0 18, w ∈ gw := by decide +kernel
theorem iX1 : ∀ w ∈ u_ws RX1 TX1 5, w ∈ gw := by decide +kernel
theorem iX2 : ∀ w ∈ u_ws RX2 TX2 5, w ∈ gw := by decide +kernel
theorem iX3 : ∀ w ∈ u_ws RX3 TX3 3, w ∈ gw := by decide +kernel
theorem iX4 : ∀ w ∈ u_ws RX4 TX4 7, w ∈ gw := by decide +kernel
theorem iX5 : ∀ w ∈ u_ws RX5 TX5 2, w ∈ gw := by decide +kernel
theorem iX6 : ∀ w ∈ u_ws RX6 TX6 2, w ∈ gw := by decide +kernel
theorem iX7 : ∀ w ∈ u_ws RX7 TX7 9, w ∈ gw := by decide +kernel
theorem iX8 : ∀ w ∈ u_ws RX8 TX8 9, w ∈ gw := by decide +kernel
theorem iX9 : ∀ w ∈ u_ws RX9 TX9 79, w ∈ gw := by decide +kernel
end
section
/-- the constants that lie in statics: two rows of the class -/
def way_c : List Int32 := [2, 3, 4, 4, 5, 5, 6, 7]
def more_c : List Int32 := [0, 0, 0, 0, 0, 0, 0, 0, 0, 0, 0, 0, 8, 12, 0, 0, 1, 1, 1, 1, 2, 2, 2, 2, 2, 2, 2, 2, 2, 2, 0, 2]
def sta (A : Nat → Prop) (U : State) (H : Heap) : Prop := ∃ t1 t2 : Nat, va_Z "BelfryBox$Processor" "WAY_CYCLES" "[I" (.ref t1) A U H ∧ va_T .int t1 8 (fun j => .int (way_c.getD j 0)) A U H ∧ va_Z "BelfryBox$Processor" "MORE_CYCLES" "[I" (.ref t2) A U H ∧ va_T .int t2 32 (fun j => .int (more_c.getD j 0)) A U H
theorem sta_same {A : Nat → Prop} {u U : State} (h : u.vm = U.vm) (hh : u.heap = U.heap) (hs : sta A u u.heap) : sta A U U.heap := by
  obtain ⟨t1, t2, h1, h2, h3, h4⟩ := hs
  have hv : u.vm.Alike U.vm := by rw [h]; exact Vm.Alike.refl _
  rw [hh] at h1 h2 h3 h4
  exact ⟨t1, t2, h1.moved hv, h2.moved hv, h3.moved hv, h4.moved hv⟩
theorem sta_call {A B : Nat → Prop} {s U : State} {H : Heap} {locs : List Loc} (hW : s.WarmedH U.vm) (hU : U.heap = H) (hS : va_S A s.heap H locs) (hB : ∀ q, B q → A q) (hs : sta A s s.heap) : sta B U U.heap := by
  obtain ⟨t1, t2, h1, h2, h3, h4⟩ := hs
  rw [hU]
  exact ⟨t1, t2, ((h1.moved hW.alike).kept hS.2.1).narrow hB, ((h2.moved hW.alike).kept hS.2.1).narrow hB, ((h3.moved hW.alike).kept hS.2.1).narrow hB, ((h4.moved hW.alike).kept hS.2.1).narrow hB⟩
def nest1 : Cond → Bool
  | .fieldLinkNest .. => true
  | .methodLinkNest .. => true
  | _ => false
theorem nest_same {w : Cond} (hw : nest1 w = true) {u U : State} (h : u.vm = U.vm) (hZ : va_Nw w u) : va_Nw w U := by
  cases w <;> first | (simp [nest1] at hw; done) | exact va_Nw.same rfl h hZ
theorem nest_warm {w : Cond} (hw : nest1 w = true) {s U : State} (hW : s.WarmedH U.vm) (hZ : va_Nw w s) : va_Nw w U := by
  cases w <;> first | (simp [nest1] at hw; done) | exact va_Nw.warmF hW hZ | exact va_Nw.warmM hW hZ
theorem nests_ok : ∀ w ∈ nests, nest1 w = true := fun w h => List.all_eq_true.mp (by decide +kernel : nests.all nest1 = true) w h
theorem gw_good : ∀ w ∈ gw, (w.onTables && w.keeps) = true ∨ ∃ ty, w = .arrayClass ty := fun w h => good_of_word (List.all_eq_true.mp (by decide +kernel : gw.all goodWord = true) w h)
/-- what a method needs of the machine besides its cells: the classes, the nest's words, the constants that lie in statics -/
def env (D : va_G) (cA cB : ClassId) (A : Nat → Prop) (U : State) : Prop := va_K D classes [(cA, .int), (cB, .boolean)] U ∧ (∀ w ∈ nests, va_Nw w U) ∧ sta A U U.heap
theorem env_same {D : va_G} {cA cB : ClassId} {A : Nat → Prop} {u U : State} (h : u.vm = U.vm) (hh : u.heap = U.heap) (hE : env D cA cB A u) : env D cA cB A U := ⟨va_K.moved (by rw [h]; exact Vm.Alike.refl _) hE.1, fun w hw => nest_same (nests_ok w hw) h (hE.2.1 w hw), sta_same h hh hE.2.2⟩
theorem env_call {D : va_G} {cA cB : ClassId} {A B : Nat → Prop} {s U : State} {H : Heap} {locs : List Loc} (hW : s.WarmedH U.vm) (hU : U.heap = H) (hS : va_S A s.heap H locs) (hB : ∀ q, B q → A q) (hE : env D cA cB A s) : env D cA cB B U := ⟨va_K.moved hW.alike hE.1, fun w hw => nest_warm (nests_ok w hw) hW (hE.2.1 w hw), sta_call hW hU hS hB hE.2.2⟩
def Pre (D : va_G) (cA cB : ClassId) (av : List Value) (W0 : va_W) (sz : Nat) : Array Value → State → Prop := va_Pc av (fun U => U.heap.size = sz ∧ va_P D classes W0 U.heap ∧ env D cA cB (va_A W0 sz) U ∧ va_D (fun _ => True) W0)
theorem Pre_blind {D : va_G} {cA cB : ClassId} {av : List Value} {W0 : va_W} {sz : Nat} : FrameBlind (Pre D cA cB av W0 sz) := fun _ U g mk q => ⟨q.1, q.2.1, q.2.2.1, env_same (u := U) (U := U.calling g mk _) rfl rfl q.2.2.2.1, q.2.2.2.2⟩
def QI (D : va_G) (post : Int32 → va_W → Prop) (A : Nat → Prop) : Array Value → State → Outcome → State → Prop := va_Qi post (fun (W1 : va_W) (t : State) => va_P D classes W1 t.heap ∧ va_D A W1) A
def QV (D : va_G) (post : va_W → Prop) (A : Nat → Prop) : Array Value → State → Outcome → State → Prop := va_Qv post (fun (W1 : va_W) (t : State) => va_P D classes W1 t.heap ∧ va_D A W1) A
/-- a contract: answer an int (or a boolean) -/
def CI (l : Launch) (y : MethodName) (b : ByteArray) (n : Nat) (ret : Option FieldType) (fr lo mc ms : Nat) (D : va_G) (cA cB : ClassId) (av : List Value) (W0 : va_W) (post : Int32 → va_W → Prop) : Prop :=
  ∀ sz : Nat, Met l y (.code y b n ret :: gw) { frames := fr, cells := mc, slots := ms, locals := lo } (Pre D cA cB av W0 sz) (QI D post (va_A W0 sz)) mc ms (va_A W0 sz)
/-- a contract: answer nothing -/
def CV (l : Launch) (y : MethodName) (b : ByteArray) (n : Nat) (ret : Option FieldType) (fr lo mc ms : Nat) (D : va_G) (cA cB : ClassId) (av : List Value) (W0 : va_W) (post : va_W → Prop) : Prop :=
  ∀ sz : Nat, Met l y (.code y b n ret :: gw) { frames := fr, cells := mc, slots := ms, locals := lo } (Pre D cA cB av W0 sz) (QV D post (va_A W0 sz)) mc ms (va_A W0 sz)
theorem mkI {l : Launch} {y : MethodName} {b : ByteArray} {n : Nat} {ret : Option FieldType} {fr lo mc ms : Nat} {D : va_G} {cA cB : ClassId} {av : List Value} {W0 : va_W} {post : Int32 → va_W → Prop} {lv0 : List (Nat × Value)} (hy : plainName y.cls = true) (hav : (lg_sl av).length ≤ n) (hlv : lv_args 0 av = lv0)
    (body : ∀ (p : Program) (e : Env) (s : State) (m : MethodId) (below : List Frame) (meth : Method) (c : Code) (A : Nat → Prop) (ls : Array Slot),
      CallFix p m c b n s av.toArray gw y.cls → meth.sig.returnType = ret → meth.locks = false → meth.name = y.name → env D cA cB A s → (∀ q : Nat, s.heap.size ≤ q → A q) → va_P D classes W0 s.heap → va_D A W0 → va_S A s.heap s.heap [] → lv_has ls n lv0 →
      W p l e { frames := fr, cells := mc, slots := ms, locals := lo } s m av.toArray below meth c s.heap [] 0 0 (MQ below (QI D post A) av.toArray s mc ms A) (F0 m 0 ls [])) :
    CI l y b n ret fr lo mc ms D cA cB av W0 post := by
  intro sz
  refine Met.ofW (cc := b) (maxL := n) (ret := ret) hy rfl ?_
  intro p e s m args below meth c s₁ B hml hv
  obtain ⟨rfl, hsz, hP, hE, hD0⟩ := hv
  subst hsz
  subst hlv
  have hts := atoms_spec (ws := .code y b n ret :: gw) B.pre
  have hl := lv_entry av (n := n) hav
  rw [lg_entry_eq]
  exact body p e s m below meth c (va_A W0 s.heap.size) _ ⟨B.exec, B.bytes, hml, findClass_of_methodNamed B.named, fun w hw => hts w (List.mem_cons_of_mem _ hw)⟩ B.returns B.notSynchronized (name_of_methodNamed B.named B.method).1 hE (fun q h => Or.inr h) hP hD0.self va_S.rf hl
theorem mkV {l : Launch} {y : MethodName} {b : ByteArray} {n : Nat} {ret : Option FieldType} {fr lo mc ms : Nat} {D : va_G} {cA cB : ClassId} {av : List Value} {W0 : va_W} {post : va_W → Prop} {lv0 : List (Nat × Value)} (hy : plainName y.cls = true) (hav : (lg_sl av).length ≤ n) (hlv : lv_args 0 av = lv0)
    (body : ∀ (p : Program) (e : Env) (s : State) (m : MethodId) (below : List Frame) (meth : Method) (c : Code) (A : Nat → Prop) (ls : Array Slot),
      CallFix p m c b n s av.toArray gw y.cls → meth.sig.returnType = ret → meth.locks = false → meth.name = y.name → env D cA cB A s → (∀ q : Nat, s.heap.size ≤ q → A q) → va_P D classes W0 s.heap → va_D A W0 → va_S A s.heap s.heap [] → lv_has ls n lv0 →
      W p l e { frames := fr, cells := mc, slots := ms, locals := lo } s m av.toArray below meth c s.heap [] 0 0 (MQ below (QV D post A) av.toArray s mc ms A) (F0 m 0 ls [])) :
    CV l y b n ret fr lo mc ms D cA cB av W0 post := by
  intro sz
  refine Met.ofW (cc := b) (maxL := n) (ret := ret) hy rfl ?_
  intro p e s m args below meth c s₁ B hml hv
  obtain ⟨rfl, hsz, hP, hE, hD0⟩ := hv
  subst hsz
  subst hlv
  have hts := atoms_spec (ws := .code y b n ret :: gw) B.pre
  have hl := lv_entry av (n := n) hav
  rw [lg_entry_eq]
  exact body p e s m below meth c (va_A W0 s.heap.size) _ ⟨B.exec, B.bytes, hml, findClass_of_methodNamed B.named, fun w hw => hts w (List.mem_cons_of_mem _ hw)⟩ B.returns B.notSynchronized (name_of_methodNamed B.named B.method).1 hE (fun q h => Or.inr h) hP hD0.self va_S.rf hl
section
variable {p : Program} {l : Launch} {e : Env} {R : Room} {s : State} {m : MethodId} {args : Array Value} {below : List Frame} {meth : Method} {c : Code} {H H0 : Heap} {locs : List Loc} {cells slots : Nat} {Q : State → Prop}
variable {D : va_G} {cA cB : ClassId} {A : Nat → Prop} {ws : va_W} {cc : ByteArray} {pc nL : Nat} {ls : Array Slot} {rest : List Value} {own : String} {a : Nat}
theorem endI {post : Int32 → va_W → Prop} {mc ms : Nat} {v : Int32} (X : CallFix p m c cc nL s args gw own) (hr : meth.sig.returnType = some .int) (hlocks : meth.locks = false) (hP : va_P D classes ws H) (hD : va_D A ws) (hS : va_S A s.heap H locs) (hdg : decode cc pc = .ok (.ireturn, 1)) (hpost : post v ws) : W p l e R s m args below meth c H locs mc ms (MQ below (QI D post A) args s mc ms A) (F0 m pc ls [.int v]) :=
  W.iret X.1 X.2.1 hr (fun t ht _ => ⟨⟨v, ws, rfl, hpost, by rw [ht]; exact hP, hD⟩, hS.F ht⟩) hS.2.2 hdg
theorem endZ {post : Int32 → va_W → Prop} {mc ms : Nat} {v : Int32} (X : CallFix p m c cc nL s args gw own) (hr : meth.sig.returnType = some .boolean) (hn : narrow .boolean (.int v) = .int v) (hlocks : meth.locks = false) (hP : va_P D classes ws H) (hD : va_D A ws) (hS : va_S A s.heap H locs) (hdg : decode cc pc = .ok (.ireturn, 1)) (hpost : post v ws) : W p l e R s m args below meth c H locs mc ms (MQ below (QI D post A) args s mc ms A) (F0 m pc ls [.int v]) :=
  W.zret X.1 X.2.1 hr hn (fun t ht _ => ⟨⟨v, ws, rfl, hpost, by rw [ht]; exact hP, hD⟩, hS.F ht⟩) hS.2.2 hdg
theorem endV {post : va_W → Prop} {mc ms : Nat} (X : CallFix p m c cc nL s args gw own) (hr : meth.sig.returnType = none) (hlocks : meth.locks = false) (hP : va_P D classes ws H) (hD : va_D A ws) (hS : va_S A s.heap H locs) (hdg : decode cc pc = .ok (.return_, 1)) (hpost : post ws) : W p l e R s m args below meth c H locs mc ms (MQ below (QV D post A) args s mc ms A) (F0 m pc ls []) :=
  W.vret X.1 X.2.1 hr (fun t ht _ => ⟨⟨ws, rfl, hpost, by rw [ht]; exact hP, hD⟩, hS.F ht⟩) hS.2.2 hdg
/-- a number on the stack by another word for it -/
theorem tk {x y : Int32} (h : x = y) (k : W p l e R s m args below meth c H locs cells slots Q (F0 m pc ls (.int y :: rest))) : W p l e R s m args below meth c H locs cells slots Q (F0 m pc ls (.int x :: rest)) := h ▸ k
theorem k_get {C : String} {T : u_T} {N ci index : Nat} {fs : List Value} {v : Value} (X : CallFix p m c cc nL s args gw own) (hE : env D cA cB A s) (hP : va_P D classes ws H) (q0 : Nat) (he : ws[q0]? = some (a, .inr (ci, fs))) (hc : classes[ci]? = some (C, T, N)) (hin : ∀ w ∈ u_ws C T N, w ∈ gw) (k : Nat) (hk : k < N) (hlink : Cond.fieldLink own index (T k).1 (T k).2.1 (T k).2.2.1 ∈ gw) (hv : fs[k]? = some v) (hdg : decode cc pc = .ok (.getfield index, 3))
    (kk : W p l e R s m args below meth c H locs cells slots Q (F0 m (pc + 3) ls (v :: rest))) : W p l e R s m args below meth c H locs cells slots Q (F0 m pc ls (.ref a :: rest)) :=
  va_get X.1 X.2.1 X.2.2.2.2 hin X.2.2.2.1 hE.1 hP q0 he hc k hk (X.2.2.2.2 _ hlink) (fun _ h => h) hv hdg kk
theorem k_getN {C host : String} {T : u_T} {N ci index : Nat} {fs : List Value} {v : Value} (X : CallFix p m c cc nL s args gw own) (hE : env D cA cB A s) (hP : va_P D classes ws H) (q0 : Nat) (he : ws[q0]? = some (a, .inr (ci, fs))) (hc : classes[ci]? = some (C, T, N)) (hin : ∀ w ∈ u_ws C T N, w ∈ gw) (k : Nat) (hk : k < N) (hlink : Cond.fieldLinkNest own index (T k).1 (T k).2.1 (T k).2.2.1 host ∈ nests) (hv : fs[k]? = some v) (hdg : decode cc pc = .ok (.getfield index, 3))
    (kk : W p l e R s m args below meth c H locs cells slots Q (F0 m (pc + 3) ls (v :: rest))) : W p l e R s m args below meth c H locs cells slots Q (F0 m pc ls (.ref a :: rest)) :=
  va_getN X.1 X.2.1 X.2.2.2.2 hin X.2.2.2.1 hE.1 hP q0 he hc k hk (va_Nw.use rfl (hE.2.1 _ hlink)) (fun _ h => h) hv hdg kk
theorem k_put {C : String} {T : u_T} {N ci index : Nat} {fs : List Value} {v : Value} {ty : FieldType} (X : CallFix p m c cc nL s args gw own) (hE : env D cA cB A s) (hP : va_P D classes ws H) (hD : va_D A ws) (hS : va_S A H0 H locs) (q0 : Nat) (he : ws[q0]? = some (a, .inr (ci, fs))) (hc : classes[ci]? = some (C, T, N)) (hin : ∀ w ∈ u_ws C T N, w ∈ gw) (ty0 : Nat → FieldType) (hty : ∀ k, k < N → parseFieldDescriptor (T k).2.2.1 = some (ty0 k)) (hnm : ∀ a, a < N → ∀ b, b < N → a ≠ b → (T a).2.1 ≠ (T b).2.1) (k : Nat) (hk : k < N) (hlink : Cond.fieldLink own index (T k).1 (T k).2.1 (T k).2.2.1 ∈ gw) (hfin : (T k).2.2.2 = false) (hd : parseFieldDescriptor (T k).2.2.1 = some ty) (hn : narrow ty v = v) (hfit : fits ty v = true) (hl : k < fs.length) (W1 : va_W) (hW1 : ws.set q0 (a, .inr (ci, fs.set k v)) = W1) (hdg : decode cc pc = .ok (.putfield index, 3))
    (kk : ∀ (H1 : Heap) (locs1 : List Loc), va_P D classes W1 H1 → va_D A W1 → va_S A H0 H1 locs1 → W p l e R s m args below meth c H1 locs1 cells slots Q (F0 m (pc + 3) ls rest)) : W p l e R s m args below meth c H locs cells slots Q (F0 m pc ls (v :: .ref a :: rest)) := by
  subst hW1
  exact va_put X.1 X.2.1 X.2.2.2.2 hin ty0 hty hnm X.2.2.2.1 hE.1 hP hD hS q0 he hc k hk (X.2.2.2.2 _ hlink) (fun _ h => h) hfin hd hn hfit hl hdg kk
theorem k_putF {C : String} {T : u_T} {N ci index : Nat} {fs : List Value} {v : Value} {ty : FieldType} (X : CallFix p m c cc nL s args gw own) (hE : env D cA cB A s) (hP : va_P D classes ws H) (hD : va_D A ws) (hS : va_S A H0 H locs) (q0 : Nat) (he : ws[q0]? = some (a, .inr (ci, fs))) (hc : classes[ci]? = some (C, T, N)) (hin : ∀ w ∈ u_ws C T N, w ∈ gw) (ty0 : Nat → FieldType) (hty : ∀ k, k < N → parseFieldDescriptor (T k).2.2.1 = some (ty0 k)) (hnm : ∀ a, a < N → ∀ b, b < N → a ≠ b → (T a).2.1 ≠ (T b).2.1) (k : Nat) (hk : k < N) (hlink : Cond.fieldLink own index (T k).1 (T k).2.1 (T k).2.2.1 ∈ gw) (hfin : (T k).2.2.2 = true) (hin2 : meth.name = "<init>") (hdecl : (T k).1 = own) (hd : parseFieldDescriptor (T k).2.2.1 = some ty) (hn : narrow ty v = v) (hfit : fits ty v = true) (hl : k < fs.length) (W1 : va_W) (hW1 : ws.set q0 (a, .inr (ci, fs.set k v)) = W1) (hdg : decode cc pc = .ok (.putfield index, 3))
    (kk : ∀ (H1 : Heap) (locs1 : List Loc), va_P D classes W1 H1 → va_D A W1 → va_S A H0 H1 locs1 → W p l e R s m args below meth c H1 locs1 cells slots Q (F0 m (pc + 3) ls rest)) : W p l e R s m args below meth c H locs cells slots Q (F0 m pc ls (v :: .ref a :: rest)) := by
  subst hW1
  exact va_putF X.1 X.2.1 X.2.2.2.2 hin ty0 hty hnm X.2.2.2.1 hE.1 hP hD hS q0 he hc k hk (X.2.2.2.2 _ hlink) (fun _ h => h) hfin hin2 hdecl hd hn hfit hl hdg kk
theorem k_putN {C host : String} {T : u_T} {N ci index : Nat} {fs : List Value} {v : Value} {ty : FieldType} (X : CallFix p m c cc nL s args gw own) (hE : env D cA cB A s) (hP : va_P D classes ws H) (hD : va_D A ws) (hS : va_S A H0 H locs) (q0 : Nat) (he : ws[q0]? = some (a, .inr (ci, fs))) (hc : classes[ci]? = some (C, T, N)) (hin : ∀ w ∈ u_ws C T N, w ∈ gw) (ty0 : Nat → FieldType) (hty : ∀ k, k < N → parseFieldDescriptor (T k).2.2.1 = some (ty0 k)) (hnm : ∀ a, a < N → ∀ b, b < N → a ≠ b → (T a).2.1 ≠ (T b).2.1) (k : Nat) (hk : k < N) (hlink : Cond.fieldLinkNest own index (T k).1 (T k).2.1 (T k).2.2.1 host ∈ nests) (hfin : (T k).2.2.2 = false) (hd : parseFieldDescriptor (T k).2.2.1 = some ty) (hn : narrow ty v = v) (hfit : fits ty v = true) (hl : k < fs.length) (W1 : va_W) (hW1 : ws.set q0 (a, .inr (ci, fs.set k v)) = W1) (hdg : decode cc pc = .ok (.putfield index, 3))
    (kk : ∀ (H1 : Heap) (locs1 : List Loc), va_P D classes W1 H1 → va_D A W1 → va_S A H0 H1 locs1 → W p l e R s m args below meth c H1 locs1 cells slots Q (F0 m (pc + 3) ls rest)) : W p l e R s m args below meth c H locs cells slots Q (F0 m pc ls (v :: .ref a :: rest)) := by
  subst hW1
  exact va_putN X.1 X.2.1 X.2.2.2.2 hin ty0 hty hnm X.2.2.2.1 hE.1 hP hD hS q0 he hc k hk (va_Nw.use rfl (hE.2.1 _ hlink)) (fun _ h => h) hfin hd hn hfit hl hdg kk
theorem k_ald {n : Nat} {f : Nat → Int32} {i v : Int32} (X : CallFix p m c cc nL s args gw own) (hE : env D cA cB A s) (hP : va_P D classes ws H) (q0 : Nat) (ha : ws[q0]? = some (a, .inl (cA, n, .inl f))) (j : Nat) (hj : i = nI j) (hjn : j < n) (hn : n < 2 ^ 31) (hv : f j = v) (hdg : decode cc pc = .ok (.iaload, 1))
    (kk : W p l e R s m args below meth c H locs cells slots Q (F0 m (pc + 1) ls (.int v :: rest))) : W p l e R s m args below meth c H locs cells slots Q (F0 m pc ls (.int i :: .ref a :: rest)) := by
  subst hj; subst hv
  refine va_iald X.1 X.2.1 hE.1 hP q0 0 ha rfl (vp_in_nI hjn hn) hdg ?_
  rw [nI_clamp (Nat.lt_trans hjn hn)]
  exact kk
theorem k_ast {n : Nat} {f : Nat → Int32} {i x : Int32} (X : CallFix p m c cc nL s args gw own) (hE : env D cA cB A s) (hP : va_P D classes ws H) (hD : va_D A ws) (hS : va_S A H0 H locs) (q0 : Nat) (ha : ws[q0]? = some (a, .inl (cA, n, .inl f))) (j : Nat) (hj : i = nI j) (hjn : j < n) (hn : n < 2 ^ 31) (W1 : va_W) (hW1 : ws.set q0 (a, .inl (cA, n, .inl (upd f j x))) = W1) (hdg : decode cc pc = .ok (.iastore, 1))
    (kk : ∀ (H1 : Heap) (locs1 : List Loc), va_P D classes W1 H1 → va_D A W1 → va_S A H0 H1 locs1 → W p l e R s m args below meth c H1 locs1 cells slots Q (F0 m (pc + 1) ls rest)) : W p l e R s m args below meth c H locs cells slots Q (F0 m pc ls (.int x :: .int i :: .ref a :: rest)) := by
  subst hj; subst hW1
  refine va_iast X.1 X.2.1 hE.1 hP hD hS q0 0 ha rfl (vp_in_nI hjn hn) hdg ?_
  rw [nI_clamp (Nat.lt_trans hjn hn)]
  exact kk
theorem k_len {n : Nat} {f : Nat → Int32} {v : Int32} (X : CallFix p m c cc nL s args gw own) (hE : env D cA cB A s) (hP : va_P D classes ws H) (q0 : Nat) (ha : ws[q0]? = some (a, .inl (cA, n, .inl f))) (hv : Int32.ofNat n = v) (hdg : decode cc pc = .ok (.arraylength, 1))
    (kk : W p l e R s m args below meth c H locs cells slots Q (F0 m (pc + 1) ls (.int v :: rest))) : W p l e R s m args below meth c H locs cells slots Q (F0 m pc ls (.ref a :: rest)) :=
  va_alen X.1 X.2.1 hE.1 hP q0 0 ha rfl hv hdg kk
theorem k_newa {i : Int32} (X : CallFix p m c cc nL s args gw own) (hw : Cond.arrayClass .int ∈ gw) (hE : env D cA cB A s) (hP : va_P D classes ws H) (hD : va_D A ws) (hS : va_S A H0 H locs) (hA : ∀ q, H0.size ≤ q → A q) (n : Nat) (hi : i = nI n) (hn : n < 2 ^ 26) (hcells : cells + 1 ≤ R.cells) (hslots : slots + n ≤ R.slots) (hdg : decode cc pc = .ok (.newarray .int, 2))
    (kk : ∀ (q : Nat) (H1 : Heap), va_P D classes (ws ++ [(q, .inl (cA, n, .inl (fun _ => 0)))]) H1 → va_D A (ws ++ [(q, .inl (cA, n, .inl (fun _ => 0)))]) → va_S A H0 H1 locs → W p l e R s m args below meth c H1 locs (cells + 1) (slots + n) Q (F0 m (pc + 2) ls (.ref q :: rest))) : W p l e R s m args below meth c H locs cells slots Q (F0 m pc ls (.int i :: rest)) := by
  subst hi
  refine va_newa (atype := .int) (ty := .int) (a0 := (n, .inl (fun _ => 0))) X.1 X.2.1 (X.2.2.2.2 _ hw) rfl hE.1 hP hD hS hA (fun _ => rfl) (nI_pos (by omega)) (nI_clamp (by omega)) (by show n * 4 ≤ 536870912; omega) hcells hslots hdg (fun q c2 H1 hK2 hP2 hD2 hS2 => ?_)
  have e1 := (hK2.2 0 _ rfl).2
  have e2 := (hK2.2 2 _ rfl).2
  have e3 : c2 = cA := Option.some.inj ((show _ = some c2 from e2).symm.trans (show _ = some cA from e1))
  subst e3
  exact kk q H1 hP2 hD2 hS2
theorem k_zld {n : Nat} {f : Nat → Int32} {i v : Int32} (X : CallFix p m c cc nL s args gw own) (hE : env D cA cB A s) (hP : va_P D classes ws H) (q0 : Nat) (ha : ws[q0]? = some (a, .inl (cB, n, .inl f))) (j : Nat) (hj : i = nI j) (hjn : j < n) (hn : n < 2 ^ 31) (hv : f j = v) (hdg : decode cc pc = .ok (.baload, 1))
    (kk : W p l e R s m args below meth c H locs cells slots Q (F0 m (pc + 1) ls (.int v :: rest))) : W p l e R s m args below meth c H locs cells slots Q (F0 m pc ls (.int i :: .ref a :: rest)) := by
  subst hj; subst hv
  refine va_zald X.1 X.2.1 hE.1 hP q0 1 ha rfl (vp_in_nI hjn hn) hdg ?_
  rw [nI_clamp (Nat.lt_trans hjn hn)]
  exact kk
theorem k_newz {i : Int32} (X : CallFix p m c cc nL s args gw own) (hw : Cond.arrayClass .boolean ∈ gw) (hE : env D cA cB A s) (hP : va_P D classes ws H) (hD : va_D A ws) (hS : va_S A H0 H locs) (hA : ∀ q, H0.size ≤ q → A q) (n : Nat) (hi : i = nI n) (hn : n < 2 ^ 26) (hcells : cells + 1 ≤ R.cells) (hslots : slots + n ≤ R.slots) (hdg : decode cc pc = .ok (.newarray .boolean, 2))
    (kk : ∀ (q : Nat) (H1 : Heap), va_P D classes (ws ++ [(q, .inl (cB, n, .inl (fun _ => 0)))]) H1 → va_D A (ws ++ [(q, .inl (cB, n, .inl (fun _ => 0)))]) → va_S A H0 H1 locs → W p l e R s m args below meth c H1 locs (cells + 1) (slots + n) Q (F0 m (pc + 2) ls (.ref q :: rest))) : W p l e R s m args below meth c H locs cells slots Q (F0 m pc ls (.int i :: rest)) := by
  subst hi
  refine va_newa (atype := .boolean) (ty := .boolean) (a0 := (n, .inl (fun _ => 0))) X.1 X.2.1 (X.2.2.2.2 _ hw) rfl hE.1 hP hD hS hA (fun _ => rfl) (nI_pos (by omega)) (nI_clamp (by omega)) (by show n * 1 ≤ 536870912; omega) hcells hslots hdg (fun q c2 H1 hK2 hP2 hD2 hS2 => ?_)
  have e1 := (hK2.2 1 _ rfl).2
  have e2 := (hK2.2 2 _ rfl).2
  have e3 : c2 = cB := Option.some.inj ((show _ = some c2 from e2).symm.trans (show _ = some cB from e1))
  subst e3
  exact kk q H1 hP2 hD2 hS2
theorem k_new {C : String} {T : u_T} {N ci index : Nat} {fs : List Value} (X : CallFix p m c cc nL s args gw own) (hE : env D cA cB A s) (hP : va_P D classes ws H) (hD : va_D A ws) (hS : va_S A H0 H locs) (hA : ∀ q, H0.size ≤ q → A q) (hc : classes[ci]? = some (C, T, N)) (hin : ∀ w ∈ u_ws C T N, w ∈ gw) (ty0 : Nat → FieldType) (hty : ∀ k, k < N → parseFieldDescriptor (T k).2.2.1 = some (ty0 k)) (hfs : ∀ j, j < N → defaultValue (ty0 j) = vp_V fs j) (hcl : Cond.classLink own index C ∈ gw) (hinst : Cond.instantiable C N ∈ gw) (hini : Cond.initialized C ∈ gw) (hcells : cells + 1 ≤ R.cells) (hslots : slots + N ≤ R.slots) (hdg : decode cc pc = .ok (.new index, 3))
    (kk : ∀ (q : Nat) (H1 : Heap), va_P D classes (ws ++ [(q, .inr (ci, fs))]) H1 → va_D A (ws ++ [(q, .inr (ci, fs))]) → va_S A H0 H1 locs → W p l e R s m args below meth c H1 locs (cells + 1) (slots + N) Q (F0 m (pc + 3) ls (.ref q :: rest))) : W p l e R s m args below meth c H locs cells slots Q (F0 m pc ls rest) :=
  va_new X.1 X.2.1 X.2.2.2.2 hin ty0 hty X.2.2.2.1 (X.2.2.2.2 _ hcl) (X.2.2.2.2 _ hinst) (X.2.2.2.2 _ hini) hE.1 hP hD hS hA hc hfs hcells hslots hdg kk
theorem k_obj {index : Nat} (X : CallFix p m c cc nL s args gw own) (hl : Cond.methodLink own index Lib.objectInit ∈ gw) (hi : Cond.instanceMethod Lib.objectInit ∈ gw) (hc : Cond.code Lib.objectInit ⟨#[0xb1]⟩ 1 none ∈ gw) (hls : ls.size = nL) (hfr : 1 ≤ R.frames) (hlo : 2 * (F0 m pc ls rest).monitorRoom + (rest.map fun v => v.category).sum + 12 ≤ R.locals) (hdg : decode cc pc = .ok (.invokespecial index, 3))
    (kk : W p l e R s m args below meth c H locs cells slots Q (F0 m (pc + 3) ls rest)) : W p l e R s m args below meth c H locs cells slots Q (F0 m pc ls (.ref a :: rest)) :=
  W.objInit X.1 X.2.1 X.2.2.2.1 (X.2.2.2.2 _ hl) (X.2.2.2.2 _ hi) (X.2.2.2.2 _ hc) rfl (by rw [X.2.2.1]; exact hls) rfl hdg hfr hlo kk
theorem kVi {y : MethodName} {b2 : ByteArray} {n2 n3 index fr lo mc ms : Nat} {rt : Option FieldType} {post : Int32 → va_W → Prop} {As : List Value} {st0 : List Value} (X : CallFix p m c cc nL s args gw own) (hls : ls.size = nL) (hE : env D cA cB A s) (hP : va_P D classes ws H) (hD : va_D A ws) (hS : va_S A s.heap H locs) (hA : ∀ q, s.heap.size ≤ q → A q)
    (Wc wr : va_W) (isC isR : List Nat) (hC : isC.map (fun i => ws[i]?) = Wc.map some) (hC2 : isC.filterMap (fun i => ws[i]?) = Wc) (hR : isR.map (fun i => ws[i]?) = wr.map some) (hnC : va_nd isC = true) (hnR : va_nd isR = true) (hdis : ∀ i ∈ isR, i ∉ isC) (hM : CI l y b2 n2 rt fr lo mc ms D cA cB (.ref a :: As) Wc post) (hcode : Cond.code y b2 n2 rt ∈ gw) (hini : Cond.initialized y.cls ∈ gw) (hlink : Cond.methodLink own index y ∈ gw) (hinst : Cond.instanceMethod y ∈ gw) (hsel : Cond.selects y.cls y y ∈ gw) (q0 : Nat) {ci : Nat} {fs : List Value} {T : u_T} {N : Nat} (hc : classes[ci]? = some (y.cls, T, N)) (hre : Wc[q0]? = some (a, .inr (ci, fs))) (hd : y.cls ≠ "java/lang/invoke/MethodHandle" ∧ y.cls ≠ "java/lang/invoke/VarHandle" ∧ (parseMethodDescriptor y.desc).map (fun d => d.parameters.length) = some n3) (hn3 : As.length = n3) (hst : st0 = As.reverse ++ .ref a :: rest) (hrest : (rest.map fun v => v.category).sum ≤ 8) (hRm : fr + 1 ≤ R.frames ∧ 8 + (n2 + 11) + lo ≤ R.locals) (hf : cells + mc ≤ R.cells ∧ slots + ms ≤ R.slots) (hdg : decode cc pc = .ok (.invokevirtual index, 3))
    (kk : ∀ (r : Int32) (W1 : va_W) (H1 : Heap) (locs1 : List Loc), post r W1 → va_P D classes (wr ++ W1) H1 → va_D A (wr ++ W1) → va_S A s.heap H1 locs1 → W p l e R s m args below meth c H1 locs1 (cells + mc) (slots + ms) Q (F0 m (pc + 3) ls (.int r :: rest))) : W p l e R s m args below meth c H locs cells slots Q (F0 m pc ls st0) := by
  have hPc := hP.sub (ws' := Wc) isC hC2
  have hDc := hD.sub (ws' := Wc) isC hnC hC
  have hFc := va_free (wc := Wc) hD hS hA isC hC
  have hts := X.2.2.2.2
  have hG : GoodIn gw (Cond.code y b2 n2 rt :: gw) := fun w hw => by
    rcases List.mem_cons.mp hw with h | h
    · subst h; exact ⟨hcode, gw_good _ hcode⟩
    · exact ⟨h, gw_good w h⟩
  refine va_calli (va_runV (As := As) (rest := rest) X (hM H.size) ⟨callB_of (ws' := gw) n3 hts hG rfl rfl rfl (hts _ hini) (hts _ hlink) hd hRm, hts _ hinst, hts _ hsel⟩ ⟨Pre_blind, va_recv hE.1 hPc hc hre, fun U hU hW => ⟨rfl, by rw [hU], by rw [hU]; exact hPc, env_call hW hU hS hFc hE, hDc.weaken (fun _ _ _ _ => trivial)⟩⟩ rfl hn3 hls hst (lv_room hrest) hdg hf) hS (fun q _ h => hFc q h) hFc (fun r u t H1 locs1 ht hvm hw hB hz1 hk1 hS1 => ?_)
  obtain ⟨hP1, hD1⟩ := hB
  rw [ht] at hP1
  obtain ⟨hP2, hD2⟩ := va_join (wr := wr) (w1 := u) hP hD isC isR hC hR hnR hdis hk1 hFc hP1 hD1
  exact kk r u H1 locs1 hw hP2 hD2 hS1
theorem kVv {y : MethodName} {b2 : ByteArray} {n2 n3 index fr lo mc ms : Nat} {rt : Option FieldType} {post : va_W → Prop} {As : List Value} {st0 : List Value} (X : CallFix p m c cc nL s args gw own) (hls : ls.size = nL) (hE : env D cA cB A s) (hP : va_P D classes ws H) (hD : va_D A ws) (hS : va_S A s.heap H locs) (hA : ∀ q, s.heap.size ≤ q → A q)
    (Wc wr : va_W) (isC isR : List Nat) (hC : isC.map (fun i => ws[i]?) = Wc.map some) (hC2 : isC.filterMap (fun i => ws[i]?) = Wc) (hR : isR.map (fun i => ws[i]?) = wr.map some) (hnC : va_nd isC = true) (hnR : va_nd isR = true) (hdis : ∀ i ∈ isR, i ∉ isC) (hM : CV l y b2 n2 rt fr lo mc ms D cA cB (.ref a :: As) Wc post) (hcode : Cond.code y b2 n2 rt ∈ gw) (hini : Cond.initialized y.cls ∈ gw) (hlink : Cond.methodLink own index y ∈ gw) (hinst : Cond.instanceMethod y ∈ gw) (hsel : Cond.selects y.cls y y ∈ gw) (q0 : Nat) {ci : Nat} {fs : List Value} {T : u_T} {N : Nat} (hc : classes[ci]? = some (y.cls, T, N)) (hre : Wc[q0]? = some (a, .inr (ci, fs))) (hd : y.cls ≠ "java/lang/invoke/MethodHandle" ∧ y.cls ≠ "java/lang/invoke/VarHandle" ∧ (parseMethodDescriptor y.desc).map (fun d => d.parameters.length) = some n3) (hn3 : As.length = n3) (hst : st0 = As.reverse ++ .ref a :: rest) (hrest : (rest.map fun v => v.category).sum ≤ 8) (hRm : fr + 1 ≤ R.frames ∧ 8 + (n2 + 11) + lo ≤ R.locals) (hf : cells + mc ≤ R.cells ∧ slots + ms ≤ R.slots) (hdg : decode cc pc = .ok (.invokevirtual index, 3))
    (kk : ∀ (W1 : va_W) (H1 : Heap) (locs1 : List Loc), post W1 → va_P D classes (wr ++ W1) H1 → va_D A (wr ++ W1) → va_S A s.heap H1 locs1 → W p l e R s m args below meth c H1 locs1 (cells + mc) (slots + ms) Q (F0 m (pc + 3) ls rest)) : W p l e R s m args below meth c H locs cells slots Q (F0 m pc ls st0) := by
  have hPc := hP.sub (ws' := Wc) isC hC2
  have hDc := hD.sub (ws' := Wc) isC hnC hC
  have hFc := va_free (wc := Wc) hD hS hA isC hC
  have hts := X.2.2.2.2
  have hG : GoodIn gw (Cond.code y b2 n2 rt :: gw) := fun w hw => by
    rcases List.mem_cons.mp hw with h | h
    · subst h; exact ⟨hcode, gw_good _ hcode⟩
    · exact ⟨h, gw_good w h⟩
  refine va_callv (va_runV (As := As) (rest := rest) X (hM H.size) ⟨callB_of (ws' := gw) n3 hts hG rfl rfl rfl (hts _ hini) (hts _ hlink) hd hRm, hts _ hinst, hts _ hsel⟩ ⟨Pre_blind, va_recv hE.1 hPc hc hre, fun U hU hW => ⟨rfl, by rw [hU], by rw [hU]; exact hPc, env_call hW hU hS hFc hE, hDc.weaken (fun _ _ _ _ => trivial)⟩⟩ rfl hn3 hls hst (lv_room hrest) hdg hf) hS (fun q _ h => hFc q h) hFc (fun u t H1 locs1 ht hvm hw hB hz1 hk1 hS1 => ?_)
  obtain ⟨hP1, hD1⟩ := hB
  rw [ht] at hP1
  obtain ⟨hP2, hD2⟩ := va_join (wr := wr) (w1 := u) hP hD isC isR hC hR hnR hdis hk1 hFc hP1 hD1
  exact kk u H1 locs1 hw hP2 hD2 hS1
theorem kVNi {y : MethodName} {b2 : ByteArray} {n2 n3 index fr lo mc ms : Nat} {rt : Option FieldType} {post : Int32 → va_W → Prop} {As : List Value} {host : String} {st0 : List Value} (X : CallFix p m c cc nL s args gw own) (hls : ls.size = nL) (hE : env D cA cB A s) (hP : va_P D classes ws H) (hD : va_D A ws) (hS : va_S A s.heap H locs) (hA : ∀ q, s.heap.size ≤ q → A q)
    (Wc wr : va_W) (isC isR : List Nat) (hC : isC.map (fun i => ws[i]?) = Wc.map some) (hC2 : isC.filterMap (fun i => ws[i]?) = Wc) (hR : isR.map (fun i => ws[i]?) = wr.map some) (hnC : va_nd isC = true) (hnR : va_nd isR = true) (hdis : ∀ i ∈ isR, i ∉ isC) (hM : CI l y b2 n2 rt fr lo mc ms D cA cB (.ref a :: As) Wc post) (hcode : Cond.code y b2 n2 rt ∈ gw) (hini : Cond.initialized y.cls ∈ gw) (hlink : Cond.methodLinkNest own index y host ∈ nests) (hinst : Cond.instanceMethod y ∈ gw) (hsel : Cond.selects y.cls y y ∈ gw) (q0 : Nat) {ci : Nat} {fs : List Value} {T : u_T} {N : Nat} (hc : classes[ci]? = some (y.cls, T, N)) (hre : Wc[q0]? = some (a, .inr (ci, fs))) (hd : y.cls ≠ "java/lang/invoke/MethodHandle" ∧ y.cls ≠ "java/lang/invoke/VarHandle" ∧ (parseMethodDescriptor y.desc).map (fun d => d.parameters.length) = some n3) (hn3 : As.length = n3) (hst : st0 = As.reverse ++ .ref a :: rest) (hrest : (rest.map fun v => v.category).sum ≤ 8) (hRm : fr + 1 ≤ R.frames ∧ 8 + (n2 + 11) + lo ≤ R.locals) (hf : cells + mc ≤ R.cells ∧ slots + ms ≤ R.slots) (hdg : decode cc pc = .ok (.invokevirtual index, 3))
    (kk : ∀ (r : Int32) (W1 : va_W) (H1 : Heap) (locs1 : List Loc), post r W1 → va_P D classes (wr ++ W1) H1 → va_D A (wr ++ W1) → va_S A s.heap H1 locs1 → W p l e R s m args below meth c H1 locs1 (cells + mc) (slots + ms) Q (F0 m (pc + 3) ls (.int r :: rest))) : W p l e R s m args below meth c H locs cells slots Q (F0 m pc ls st0) := by
  have hPc := hP.sub (ws' := Wc) isC hC2
  have hDc := hD.sub (ws' := Wc) isC hnC hC
  have hFc := va_free (wc := Wc) hD hS hA isC hC
  have hts := X.2.2.2.2
  have hG : GoodIn gw (Cond.code y b2 n2 rt :: gw) := fun w hw => by
    rcases List.mem_cons.mp hw with h | h
    · subst h; exact ⟨hcode, gw_good _ hcode⟩
    · exact ⟨h, gw_good w h⟩
  refine va_calli (va_runVN (As := As) (rest := rest) X (hM H.size) ⟨va_cnB (ws' := gw) n3 hts hG rfl rfl rfl (hE.2.1 _ hlink) (hts _ hini) hd hRm, hts _ hinst, hts _ hsel⟩ ⟨Pre_blind, va_recv hE.1 hPc hc hre, fun U hU hW => ⟨rfl, by rw [hU], by rw [hU]; exact hPc, env_call hW hU hS hFc hE, hDc.weaken (fun _ _ _ _ => trivial)⟩⟩ rfl hn3 hls hst (lv_room hrest) hdg hf) hS (fun q _ h => hFc q h) hFc (fun r u t H1 locs1 ht hvm hw hB hz1 hk1 hS1 => ?_)
  obtain ⟨hP1, hD1⟩ := hB
  rw [ht] at hP1
  obtain ⟨hP2, hD2⟩ := va_join (wr := wr) (w1 := u) hP hD isC isR hC hR hnR hdis hk1 hFc hP1 hD1
  exact kk r u H1 locs1 hw hP2 hD2 hS1
theorem kVNv {y : MethodName} {b2 : ByteArray} {n2 n3 index fr lo mc ms : Nat} {rt : Option FieldType} {post : va_W → Prop} {As : List Value} {host : String} {st0 : List Value} (X : CallFix p m c cc nL s args gw own) (hls : ls.size = nL) (hE : env D cA cB A s) (hP : va_P D classes ws H) (hD : va_D A ws) (hS : va_S A s.heap H locs) (hA : ∀ q, s.heap.size ≤ q → A q)
    (Wc wr : va_W) (isC isR : List Nat) (hC : isC.map (fun i => ws[i]?) = Wc.map some) (hC2 : isC.filterMap (fun i => ws[i]?) = Wc) (hR : isR.map (fun i => ws[i]?) = wr.map some) (hnC : va_nd isC = true) (hnR : va_nd isR = true) (hdis : ∀ i ∈ isR, i ∉ isC) (hM : CV l y b2 n2 rt fr lo mc ms D cA cB (.ref a :: As) Wc post) (hcode : Cond.code y b2 n2 rt ∈ gw) (hini : Cond.initialized y.cls ∈ gw) (hlink : Cond.methodLinkNest own index y host ∈ nests) (hinst : Cond.instanceMethod y ∈ gw) (hsel : Cond.selects y.cls y y ∈ gw) (q0 : Nat) {ci : Nat} {fs : List Value} {T : u_T} {N : Nat} (hc : classes[ci]? = some (y.cls, T, N)) (hre : Wc[q0]? = some (a, .inr (ci, fs))) (hd : y.cls ≠ "java/lang/invoke/MethodHandle" ∧ y.cls ≠ "java/lang/invoke/VarHandle" ∧ (parseMethodDescriptor y.desc).map (fun d => d.parameters.length) = some n3) (hn3 : As.length = n3) (hst : st0 = As.reverse ++ .ref a :: rest) (hrest : (rest.map fun v => v.category).sum ≤ 8) (hRm : fr + 1 ≤ R.frames ∧ 8 + (n2 + 11) + lo ≤ R.locals) (hf : cells + mc ≤ R.cells ∧ slots + ms ≤ R.slots) (hdg : decode cc pc = .ok (.invokevirtual index, 3))
    (kk : ∀ (W1 : va_W) (H1 : Heap) (locs1 : List Loc), post W1 → va_P D classes (wr ++ W1) H1 → va_D A (wr ++ W1) → va_S A s.heap H1 locs1 → W p l e R s m args below meth c H1 locs1 (cells + mc) (slots + ms) Q (F0 m (pc + 3) ls rest)) : W p l e R s m args below meth c H locs cells slots Q (F0 m pc ls st0) := by
  have hPc := hP.sub (ws' := Wc) isC hC2
  have hDc := hD.sub (ws' := Wc) isC hnC hC
  have hFc := va_free (wc := Wc) hD hS hA isC hC
  have hts := X.2.2.2.2
  have hG : GoodIn gw (Cond.code y b2 n2 rt :: gw) := fun w hw => by
    rcases List.mem_cons.mp hw with h | h
    · subst h; exact ⟨hcode, gw_good _ hcode⟩
    · exact ⟨h, gw_good w h⟩
  refine va_callv (va_runVN (As := As) (rest := rest) X (hM H.size) ⟨va_cnB (ws' := gw) n3 hts hG rfl rfl rfl (hE.2.1 _ hlink) (hts _ hini) hd hRm, hts _ hinst, hts _ hsel⟩ ⟨Pre_blind, va_recv hE.1 hPc hc hre, fun U hU hW => ⟨rfl, by rw [hU], by rw [hU]; exact hPc, env_call hW hU hS hFc hE, hDc.weaken (fun _ _ _ _ => trivial)⟩⟩ rfl hn3 hls hst (lv_room hrest) hdg hf) hS (fun q _ h => hFc q h) hFc (fun u t H1 locs1 ht hvm hw hB hz1 hk1 hS1 => ?_)
  obtain ⟨hP1, hD1⟩ := hB
  rw [ht] at hP1
  obtain ⟨hP2, hD2⟩ := va_join (wr := wr) (w1 := u) hP hD isC isR hC hR hnR hdis hk1 hFc hP1 hD1
  exact kk u H1 locs1 hw hP2 hD2 hS1
theorem kSi {y : MethodName} {b2 : ByteArray} {n2 n3 index fr lo mc ms : Nat} {rt : Option FieldType} {post : Int32 → va_W → Prop} {As : List Value} {st0 : List Value} (X : CallFix p m c cc nL s args gw own) (hls : ls.size = nL) (hE : env D cA cB A s) (hP : va_P D classes ws H) (hD : va_D A ws) (hS : va_S A s.heap H locs) (hA : ∀ q, s.heap.size ≤ q → A q)
    (Wc wr : va_W) (isC isR : List Nat) (hC : isC.map (fun i => ws[i]?) = Wc.map some) (hC2 : isC.filterMap (fun i => ws[i]?) = Wc) (hR : isR.map (fun i => ws[i]?) = wr.map some) (hnC : va_nd isC = true) (hnR : va_nd isR = true) (hdis : ∀ i ∈ isR, i ∉ isC) (hM : CI l y b2 n2 rt fr lo mc ms D cA cB (As) Wc post) (hcode : Cond.code y b2 n2 rt ∈ gw) (hini : Cond.initialized y.cls ∈ gw) (hlink : Cond.methodLink own index y ∈ gw) (hsta : Cond.static y ∈ gw) (hd : y.cls ≠ "java/lang/invoke/MethodHandle" ∧ y.cls ≠ "java/lang/invoke/VarHandle" ∧ (parseMethodDescriptor y.desc).map (fun d => d.parameters.length) = some n3) (hn3 : As.length = n3) (hst : st0 = As.reverse ++ rest) (hrest : (rest.map fun v => v.category).sum ≤ 8) (hRm : fr + 1 ≤ R.frames ∧ 8 + (n2 + 11) + lo ≤ R.locals) (hf : cells + mc ≤ R.cells ∧ slots + ms ≤ R.slots) (hdg : decode cc pc = .ok (.invokestatic index, 3))
    (kk : ∀ (r : Int32) (W1 : va_W) (H1 : Heap) (locs1 : List Loc), post r W1 → va_P D classes (wr ++ W1) H1 → va_D A (wr ++ W1) → va_S A s.heap H1 locs1 → W p l e R s m args below meth c H1 locs1 (cells + mc) (slots + ms) Q (F0 m (pc + 3) ls (.int r :: rest))) : W p l e R s m args below meth c H locs cells slots Q (F0 m pc ls st0) := by
  have hPc := hP.sub (ws' := Wc) isC hC2
  have hDc := hD.sub (ws' := Wc) isC hnC hC
  have hFc := va_free (wc := Wc) hD hS hA isC hC
  have hts := X.2.2.2.2
  have hG : GoodIn gw (Cond.code y b2 n2 rt :: gw) := fun w hw => by
    rcases List.mem_cons.mp hw with h | h
    · subst h; exact ⟨hcode, gw_good _ hcode⟩
    · exact ⟨h, gw_good w h⟩
  refine va_calli (va_runS (As := As) (rest := rest) X (hM H.size) ⟨callB_of (ws' := gw) n3 hts hG rfl rfl rfl (hts _ hini) (hts _ hlink) hd hRm, hts _ hsta⟩ ⟨Pre_blind, fun U hU hW => ⟨rfl, by rw [hU], by rw [hU]; exact hPc, env_call hW hU hS hFc hE, hDc.weaken (fun _ _ _ _ => trivial)⟩⟩ rfl hn3 hls hst (lv_room hrest) hdg hf) hS (fun q _ h => hFc q h) hFc (fun r u t H1 locs1 ht hvm hw hB hz1 hk1 hS1 => ?_)
  obtain ⟨hP1, hD1⟩ := hB
  rw [ht] at hP1
  obtain ⟨hP2, hD2⟩ := va_join (wr := wr) (w1 := u) hP hD isC isR hC hR hnR hdis hk1 hFc hP1 hD1
  exact kk r u H1 locs1 hw hP2 hD2 hS1
theorem kSv {y : MethodName} {b2 : ByteArray} {n2 n3 index fr lo mc ms : Nat} {rt : Option FieldType} {post : va_W → Prop} {As : List Value} {st0 : List Value} (X : CallFix p m c cc nL s args gw own) (hls : ls.size = nL) (hE : env D cA cB A s) (hP : va_P D classes ws H) (hD : va_D A ws) (hS : va_S A s.heap H locs) (hA : ∀ q, s.heap.size ≤ q → A q)
    (Wc wr : va_W) (isC isR : List Nat) (hC : isC.map (fun i => ws[i]?) = Wc.map some) (hC2 : isC.filterMap (fun i => ws[i]?) = Wc) (hR : isR.map (fun i => ws[i]?) = wr.map some) (hnC : va_nd isC = true) (hnR : va_nd isR = true) (hdis : ∀ i ∈ isR, i ∉ isC) (hM : CV l y b2 n2 rt fr lo mc ms D cA cB (As) Wc post) (hcode : Cond.code y b2 n2 rt ∈ gw) (hini : Cond.initialized y.cls ∈ gw) (hlink : Cond.methodLink own index y ∈ gw) (hsta : Cond.static y ∈ gw) (hd : y.cls ≠ "java/lang/invoke/MethodHandle" ∧ y.cls ≠ "java/lang/invoke/VarHandle" ∧ (parseMethodDescriptor y.desc).map (fun d => d.parameters.length) = some n3) (hn3 : As.length = n3) (hst : st0 = As.reverse ++ rest) (hrest : (rest.map fun v => v.category).sum ≤ 8) (hRm : fr + 1 ≤ R.frames ∧ 8 + (n2 + 11) + lo ≤ R.locals) (hf : cells + mc ≤ R.cells ∧ slots + ms ≤ R.slots) (hdg : decode cc pc = .ok (.invokestatic index, 3))
    (kk : ∀ (W1 : va_W) (H1 : Heap) (locs1 : List Loc), post W1 → va_P D classes (wr ++ W1) H1 → va_D A (wr ++ W1) → va_S A s.heap H1 locs1 → W p l e R s m args below meth c H1 locs1 (cells + mc) (slots + ms) Q (F0 m (pc + 3) ls rest)) : W p l e R s m args below meth c H locs cells slots Q (F0 m pc ls st0) := by
  have hPc := hP.sub (ws' := Wc) isC hC2
  have hDc := hD.sub (ws' := Wc) isC hnC hC
  have hFc := va_free (wc := Wc) hD hS hA isC hC
  have hts := X.2.2.2.2
  have hG : GoodIn gw (Cond.code y b2 n2 rt :: gw) := fun w hw => by
    rcases List.mem_cons.mp hw with h | h
    · subst h; exact ⟨hcode, gw_good _ hcode⟩
    · exact ⟨h, gw_good w h⟩
  refine va_callv (va_runS (As := As) (rest := rest) X (hM H.size) ⟨callB_of (ws' := gw) n3 hts hG rfl rfl rfl (hts _ hini) (hts _ hlink) hd hRm, hts _ hsta⟩ ⟨Pre_blind, fun U hU hW => ⟨rfl, by rw [hU], by rw [hU]; exact hPc, env_call hW hU hS hFc hE, hDc.weaken (fun _ _ _ _ => trivial)⟩⟩ rfl hn3 hls hst (lv_room hrest) hdg hf) hS (fun q _ h => hFc q h) hFc (fun u t H1 locs1 ht hvm hw hB hz1 hk1 hS1 => ?_)
  obtain ⟨hP1, hD1⟩ := hB
  rw [ht] at hP1
  obtain ⟨hP2, hD2⟩ := va_join (wr := wr) (w1 := u) hP hD isC isR hC hR hnR hdis hk1 hFc hP1 hD1
  exact kk u H1 locs1 hw hP2 hD2 hS1
theorem kSNi {y : MethodName} {b2 : ByteArray} {n2 n3 index fr lo mc ms : Nat} {rt : Option FieldType} {post : Int32 → va_W → Prop} {As : List Value} {host : String} {st0 : List Value} (X : CallFix p m c cc nL s args gw own) (hls : ls.size = nL) (hE : env D cA cB A s) (hP : va_P D classes ws H) (hD : va_D A ws) (hS : va_S A s.heap H locs) (hA : ∀ q, s.heap.size ≤ q → A q)
    (Wc wr : va_W) (isC isR : List Nat) (hC : isC.map (fun i => ws[i]?) = Wc.map some) (hC2 : isC.filterMap (fun i => ws[i]?) = Wc) (hR : isR.map (fun i => ws[i]?) = wr.map some) (hnC : va_nd isC = true) (hnR : va_nd isR = true) (hdis : ∀ i ∈ isR, i ∉ isC) (hM : CI l y b2 n2 rt fr lo mc ms D cA cB (As) Wc post) (hcode : Cond.code y b2 n2 rt ∈ gw) (hini : Cond.initialized y.cls ∈ gw) (hlink : Cond.methodLinkNest own index y host ∈ nests) (hsta : Cond.static y ∈ gw) (hd : y.cls ≠ "java/lang/invoke/MethodHandle" ∧ y.cls ≠ "java/lang/invoke/VarHandle" ∧ (parseMethodDescriptor y.desc).map (fun d => d.parameters.length) = some n3) (hn3 : As.length = n3) (hst : st0 = As.reverse ++ rest) (hrest : (rest.map fun v => v.category).sum ≤ 8) (hRm : fr + 1 ≤ R.frames ∧ 8 + (n2 + 11) + lo ≤ R.locals) (hf : cells + mc ≤ R.cells ∧ slots + ms ≤ R.slots) (hdg : decode cc pc = .ok (.invokestatic index, 3))
    (kk : ∀ (r : Int32) (W1 : va_W) (H1 : Heap) (locs1 : List Loc), post r W1 → va_P D classes (wr ++ W1) H1 → va_D A (wr ++ W1) → va_S A s.heap H1 locs1 → W p l e R s m args below meth c H1 locs1 (cells + mc) (slots + ms) Q (F0 m (pc + 3) ls (.int r :: rest))) : W p l e R s m args below meth c H locs cells slots Q (F0 m pc ls st0) := by
  have hPc := hP.sub (ws' := Wc) isC hC2
  have hDc := hD.sub (ws' := Wc) isC hnC hC
  have hFc := va_free (wc := Wc) hD hS hA isC hC
  have hts := X.2.2.2.2
  have hG : GoodIn gw (Cond.code y b2 n2 rt :: gw) := fun w hw => by
    rcases List.mem_cons.mp hw with h | h
    · subst h; exact ⟨hcode, gw_good _ hcode⟩
    · exact ⟨h, gw_good w h⟩
  refine va_calli (va_runSN (As := As) (rest := rest) X (hM H.size) ⟨va_cnB (ws' := gw) n3 hts hG rfl rfl rfl (hE.2.1 _ hlink) (hts _ hini) hd hRm, hts _ hsta, trivial⟩ ⟨Pre_blind, fun U hU hW => ⟨rfl, by rw [hU], by rw [hU]; exact hPc, env_call hW hU hS hFc hE, hDc.weaken (fun _ _ _ _ => trivial)⟩⟩ rfl hn3 hls hst (lv_room hrest) hdg hf) hS (fun q _ h => hFc q h) hFc (fun r u t H1 locs1 ht hvm hw hB hz1 hk1 hS1 => ?_)
  obtain ⟨hP1, hD1⟩ := hB
  rw [ht] at hP1
  obtain ⟨hP2, hD2⟩ := va_join (wr := wr) (w1 := u) hP hD isC isR hC hR hnR hdis hk1 hFc hP1 hD1
  exact kk r u H1 locs1 hw hP2 hD2 hS1
theorem kSNv {y : MethodName} {b2 : ByteArray} {n2 n3 index fr lo mc ms : Nat} {rt : Option FieldType} {post : va_W → Prop} {As : List Value} {host : String} {st0 : List Value} (X : CallFix p m c cc nL s args gw own) (hls : ls.size = nL) (hE : env D cA cB A s) (hP : va_P D classes ws H) (hD : va_D A ws) (hS : va_S A s.heap H locs) (hA : ∀ q, s.heap.size ≤ q → A q)
    (Wc wr : va_W) (isC isR : List Nat) (hC : isC.map (fun i => ws[i]?) = Wc.map some) (hC2 : isC.filterMap (fun i => ws[i]?) = Wc) (hR : isR.map (fun i => ws[i]?) = wr.map some) (hnC : va_nd isC = true) (hnR : va_nd isR = true) (hdis : ∀ i ∈ isR, i ∉ isC) (hM : CV l y b2 n2 rt fr lo mc ms D cA cB (As) Wc post) (hcode : Cond.code y b2 n2 rt ∈ gw) (hini : Cond.initialized y.cls ∈ gw) (hlink : Cond.methodLinkNest own index y host ∈ nests) (hsta : Cond.static y ∈ gw) (hd : y.cls ≠ "java/lang/invoke/MethodHandle" ∧ y.cls ≠ "java/lang/invoke/VarHandle" ∧ (parseMethodDescriptor y.desc).map (fun d => d.parameters.length) = some n3) (hn3 : As.length = n3) (hst : st0 = As.reverse ++ rest) (hrest : (rest.map fun v => v.category).sum ≤ 8) (hRm : fr + 1 ≤ R.frames ∧ 8 + (n2 + 11) + lo ≤ R.locals) (hf : cells + mc ≤ R.cells ∧ slots + ms ≤ R.slots) (hdg : decode cc pc = .ok (.invokestatic index, 3))
    (kk : ∀ (W1 : va_W) (H1 : Heap) (locs1 : List Loc), post W1 → va_P D classes (wr ++ W1) H1 → va_D A (wr ++ W1) → va_S A s.heap H1 locs1 → W p l e R s m args below meth c H1 locs1 (cells + mc) (slots + ms) Q (F0 m (pc + 3) ls rest)) : W p l e R s m args below meth c H locs cells slots Q (F0 m pc ls st0) := by
  have hPc := hP.sub (ws' := Wc) isC hC2
  have hDc := hD.sub (ws' := Wc) isC hnC hC
  have hFc := va_free (wc := Wc) hD hS hA isC hC
  have hts := X.2.2.2.2
  have hG : GoodIn gw (Cond.code y b2 n2 rt :: gw) := fun w hw => by
    rcases List.mem_cons.mp hw with h | h
    · subst h; exact ⟨hcode, gw_good _ hcode⟩
    · exact ⟨h, gw_good w h⟩
  refine va_callv (va_runSN (As := As) (rest := rest) X (hM H.size) ⟨va_cnB (ws' := gw) n3 hts hG rfl rfl rfl (hE.2.1 _ hlink) (hts _ hini) hd hRm, hts _ hsta, trivial⟩ ⟨Pre_blind, fun U hU hW => ⟨rfl, by rw [hU], by rw [hU]; exact hPc, env_call hW hU hS hFc hE, hDc.weaken (fun _ _ _ _ => trivial)⟩⟩ rfl hn3 hls hst (lv_room hrest) hdg hf) hS (fun q _ h => hFc q h) hFc (fun u t H1 locs1 ht hvm hw hB hz1 hk1 hS1 => ?_)
  obtain ⟨hP1, hD1⟩ := hB
  rw [ht] at hP1
  obtain ⟨hP2, hD2⟩ := va_join (wr := wr) (w1 := u) hP hD isC isR hC hR hnR hdis hk1 hFc hP1 hD1
  exact kk u H1 locs1 hw hP2 hD2 hS1
theorem kIv {y : MethodName} {b2 : ByteArray} {n2 n3 index fr lo mc ms : Nat}  {post : va_W → Prop} {As : List Value} {st0 : List Value} (X : CallFix p m c cc nL s args gw own) (hls : ls.size = nL) (hE : env D cA cB A s) (hP : va_P D classes ws H) (hD : va_D A ws) (hS : va_S A s.heap H locs) (hA : ∀ q, s.heap.size ≤ q → A q)
    (Wc wr : va_W) (isC isR : List Nat) (hC : isC.map (fun i => ws[i]?) = Wc.map some) (hC2 : isC.filterMap (fun i => ws[i]?) = Wc) (hR : isR.map (fun i => ws[i]?) = wr.map some) (hnC : va_nd isC = true) (hnR : va_nd isR = true) (hdis : ∀ i ∈ isR, i ∉ isC) (hM : CV l y b2 n2 none fr lo mc ms D cA cB (.ref a :: As) Wc post) (hcode : Cond.code y b2 n2 none ∈ gw) (hini : Cond.initialized y.cls ∈ gw) (hlink : Cond.methodLink own index y ∈ gw) (hinst : Cond.instanceMethod y ∈ gw) (hy1 : y.name = "<init>") (hd : y.cls ≠ "java/lang/invoke/MethodHandle" ∧ y.cls ≠ "java/lang/invoke/VarHandle" ∧ (parseMethodDescriptor y.desc).map (fun d => d.parameters.length) = some n3) (hn3 : As.length = n3) (hst : st0 = As.reverse ++ .ref a :: rest) (hrest : (rest.map fun v => v.category).sum ≤ 8) (hRm : fr + 1 ≤ R.frames ∧ 8 + (n2 + 11) + lo ≤ R.locals) (hf : cells + mc ≤ R.cells ∧ slots + ms ≤ R.slots) (hdg : decode cc pc = .ok (.invokespecial index, 3))
    (kk : ∀ (W1 : va_W) (H1 : Heap) (locs1 : List Loc), post W1 → va_P D classes (wr ++ W1) H1 → va_D A (wr ++ W1) → va_S A s.heap H1 locs1 → W p l e R s m args below meth c H1 locs1 (cells + mc) (slots + ms) Q (F0 m (pc + 3) ls rest)) : W p l e R s m args below meth c H locs cells slots Q (F0 m pc ls st0) := by
  have hPc := hP.sub (ws' := Wc) isC hC2
  have hDc := hD.sub (ws' := Wc) isC hnC hC
  have hFc := va_free (wc := Wc) hD hS hA isC hC
  have hts := X.2.2.2.2
  have hG : GoodIn gw (Cond.code y b2 n2 none :: gw) := fun w hw => by
    rcases List.mem_cons.mp hw with h | h
    · subst h; exact ⟨hcode, gw_good _ hcode⟩
    · exact ⟨h, gw_good w h⟩
  refine va_callv (va_runI (As := As) (rest := rest) X (hM H.size) ⟨callB_of (ws' := gw) n3 hts hG rfl rfl rfl (hts _ hini) (hts _ hlink) hd hRm, hy1, hts _ hinst⟩ ⟨Pre_blind, fun U hU hW => ⟨rfl, by rw [hU], by rw [hU]; exact hPc, env_call hW hU hS hFc hE, hDc.weaken (fun _ _ _ _ => trivial)⟩⟩ rfl hn3 hls hst (lv_room hrest) hdg hf) hS (fun q _ h => hFc q h) hFc (fun u t H1 locs1 ht hvm hw hB hz1 hk1 hS1 => ?_)
  obtain ⟨hP1, hD1⟩ := hB
  rw [ht] at hP1
  obtain ⟨hP2, hD2⟩ := va_join (wr := wr) (w1 := u) hP hD isC isR hC hR hnR hdis hk1 hFc hP1 hD1
  exact kk u H1 locs1 hw hP2 hD2 hS1
theorem kINv {y : MethodName} {b2 : ByteArray} {n2 n3 index fr lo mc ms : Nat}  {post : va_W → Prop} {As : List Value} {host : String} {st0 : List Value} (X : CallFix p m c cc nL s args gw own) (hls : ls.size = nL) (hE : env D cA cB A s) (hP : va_P D classes ws H) (hD : va_D A ws) (hS : va_S A s.heap H locs) (hA : ∀ q, s.heap.size ≤ q → A q)
    (Wc wr : va_W) (isC isR : List Nat) (hC : isC.map (fun i => ws[i]?) = Wc.map some) (hC2 : isC.filterMap (fun i => ws[i]?) = Wc) (hR : isR.map (fun i => ws[i]?) = wr.map some) (hnC : va_nd isC = true) (hnR : va_nd isR = true) (hdis : ∀ i ∈ isR, i ∉ isC) (hM : CV l y b2 n2 none fr lo mc ms D cA cB (.ref a :: As) Wc post) (hcode : Cond.code y b2 n2 none ∈ gw) (hini : Cond.initialized y.cls ∈ gw) (hlink : Cond.methodLinkNest own index y host ∈ nests) (hinst : Cond.instanceMethod y ∈ gw) (hy1 : y.name = "<init>") (hd : y.cls ≠ "java/lang/invoke/MethodHandle" ∧ y.cls ≠ "java/lang/invoke/VarHandle" ∧ (parseMethodDescriptor y.desc).map (fun d => d.parameters.length) = some n3) (hn3 : As.length = n3) (hst : st0 = As.reverse ++ .ref a :: rest) (hrest : (rest.map fun v => v.category).sum ≤ 8) (hRm : fr + 1 ≤ R.frames ∧ 8 + (n2 + 11) + lo ≤ R.locals) (hf : cells + mc ≤ R.cells ∧ slots + ms ≤ R.slots) (hdg : decode cc pc = .ok (.invokespecial index, 3))
    (kk : ∀ (W1 : va_W) (H1 : Heap) (locs1 : List Loc), post W1 → va_P D classes (wr ++ W1) H1 → va_D A (wr ++ W1) → va_S A s.heap H1 locs1 → W p l e R s m args below meth c H1 locs1 (cells + mc) (slots + ms) Q (F0 m (pc + 3) ls rest)) : W p l e R s m args below meth c H locs cells slots Q (F0 m pc ls st0) := by
  have hPc := hP.sub (ws' := Wc) isC hC2
  have hDc := hD.sub (ws' := Wc) isC hnC hC
  have hFc := va_free (wc := Wc) hD hS hA isC hC
  have hts := X.2.2.2.2
  have hG : GoodIn gw (Cond.code y b2 n2 none :: gw) := fun w hw => by
    rcases List.mem_cons.mp hw with h | h
    · subst h; exact ⟨hcode, gw_good _ hcode⟩
    · exact ⟨h, gw_good w h⟩
  refine va_callv (va_runIN (As := As) (rest := rest) X (hM H.size) ⟨va_cnB (ws' := gw) n3 hts hG rfl rfl rfl (hE.2.1 _ hlink) (hts _ hini) hd hRm, hy1, hts _ hinst⟩ ⟨Pre_blind, fun U hU hW => ⟨rfl, by rw [hU], by rw [hU]; exact hPc, env_call hW hU hS hFc hE, hDc.weaken (fun _ _ _ _ => trivial)⟩⟩ rfl hn3 hls hst (lv_room hrest) hdg hf) hS (fun q _ h => hFc q h) hFc (fun u t H1 locs1 ht hvm hw hB hz1 hk1 hS1 => ?_)
  obtain ⟨hP1, hD1⟩ := hB
  rw [ht] at hP1
  obtain ⟨hP2, hD2⟩ := va_join (wr := wr) (w1 := u) hP hD isC isR hC hR hnR hdis hk1 hFc hP1 hD1
  exact kk u H1 locs1 hw hP2 hD2 hS1
end
end
section
abbrev cX6_init : ByteArray := prog_8_method_1_code
def yX6_init : MethodName := ⟨RX6, "<init>", "()V"⟩
abbrev cX3_init : ByteArray := prog_5_method_1_code
def yX3_init : MethodName := ⟨RX3, "<init>", "()V"⟩
abbrev cX5_init : ByteArray := prog_7_method_1_code
def yX5_init : MethodName := ⟨RX5, "<init>", "()V"⟩
abbrev cX7_init : ByteArray := prog_9_method_1_code
def yX7_init : MethodName := ⟨RX7, "<init>", "()V"⟩
abbrev cX2_init : ByteArray := prog_4_method_1_code
def yX2_init : MethodName := ⟨RX2, "<init>", "()V"⟩
abbrev cX1_init : ByteArray := prog_3_method_1_code
def yX1_init : MethodName := ⟨RX1, "<init>", "([I)V"⟩
abbrev cX4_init : ByteArray := prog_6_method_1_code
def yX4_init : MethodName := ⟨RX4, "<init>", "([I[ILBelfryBox$Devices;LBelfryBox$Past;)V"⟩
abbrev cX0_init : ByteArray := prog_2_method_1_code
def yX0_init : MethodName := ⟨RX0, "<init>", "(LBelfryBox$Tape;)V"⟩
set_option maxRecDepth 100000 in
theorem w_1 : (Cond.methodLink "BelfryBox$Stops" 3 ⟨"java/lang/Object", "<init>", "()V"⟩ : Cond) ∈ gw := List.mem_filter.mpr ⟨List.mem_append_right _ (tb1 (List.mem_of_getElem? (i := 106) rfl)), rfl⟩
set_option maxRecDepth 100000 in
theorem w_2 : (Cond.instanceMethod ⟨"java/lang/Object", "<init>", "()V"⟩ : Cond) ∈ gw := List.mem_filter.mpr ⟨List.mem_append_right _ (tb1 (List.mem_of_getElem? (i := 25) rfl)), rfl⟩
set_option maxRecDepth 100000 in
theorem w_3 : (Cond.code ⟨"java/lang/Object", "<init>", "()V"⟩ object_method_1_code 1 (Option.none : Option Jvm.ClassFile.FieldType) : Cond) ∈ gw := List.mem_filter.mpr ⟨List.mem_append_right _ (tb1 (List.mem_of_getElem? (i := 26) rfl)), rfl⟩
set_option maxRecDepth 100000 in
theorem w_4 : (Cond.arrayClass Jvm.ClassFile.FieldType.int : Cond) ∈ gw := List.mem_filter.mpr ⟨List.mem_append_right _ (tb1 (List.mem_of_getElem? (i := 52) rfl)), rfl⟩
set_option maxRecDepth 100000 in
theorem w_5 : (Cond.fieldLink "BelfryBox$Stops" 11 "BelfryBox$Stops" "places" "[I" : Cond) ∈ gw := List.mem_filter.mpr ⟨List.mem_append_right _ (tb1 (List.mem_of_getElem? (i := 107) rfl)), rfl⟩
set_option maxRecDepth 100000 in
theorem w_6 : (Cond.methodLink "BelfryBox$Past" 5 ⟨"java/lang/Object", "<init>", "()V"⟩ : Cond) ∈ gw := List.mem_filter.mpr ⟨List.mem_append_right _ (tb1 (List.mem_of_getElem? (i := 58) rfl)), rfl⟩
set_option maxRecDepth 100000 in
theorem w_7 : (Cond.fieldLink "BelfryBox$Past" 11 "BelfryBox$Past" "entries" "[I" : Cond) ∈ gw := List.mem_filter.mpr ⟨List.mem_append_right _ (tb1 (List.mem_of_getElem? (i := 59) rfl)), rfl⟩
set_option maxRecDepth 100000 in
theorem w_8 : (Cond.methodLink "BelfryBox$Reader" 3 ⟨"java/lang/Object", "<init>", "()V"⟩ : Cond) ∈ gw := List.mem_filter.mpr ⟨List.mem_append_right _ (tb2 (List.mem_of_getElem? (i := 13) rfl)), rfl⟩
set_option maxRecDepth 100000 in
theorem w_9 : (Cond.fieldLink "BelfryBox$Reader" 11 "BelfryBox$Reader" "letters" "[I" : Cond) ∈ gw := List.mem_filter.mpr ⟨List.mem_append_right _ (tb2 (List.mem_of_getElem? (i := 14) rfl)), rfl⟩
set_option maxRecDepth 100000 in
theorem w_10 : (Cond.methodLink "BelfryBox$Tape" 3 ⟨"java/lang/Object", "<init>", "()V"⟩ : Cond) ∈ gw := List.mem_filter.mpr ⟨List.mem_append_right _ (tb1 (List.mem_of_getElem? (i := 120) rfl)), rfl⟩
set_option maxRecDepth 100000 in
theorem w_11 : (Cond.fieldLink "BelfryBox$Tape" 11 "BelfryBox$Tape" "bytes" "[I" : Cond) ∈ gw := List.mem_filter.mpr ⟨List.mem_append_right _ (tb1 (List.mem_of_getElem? (i := 121) rfl)), rfl⟩
set_option maxRecDepth 100000 in
theorem w_12 : (Cond.methodLink "BelfryBox$Names" 3 ⟨"java/lang/Object", "<init>", "()V"⟩ : Cond) ∈ gw := List.mem_filter.mpr ⟨List.mem_append_right _ (tb1 (List.mem_of_getElem? (i := 170) rfl)), rfl⟩
set_option maxRecDepth 100000 in
theorem w_13 : (Cond.fieldLink "BelfryBox$Names" 11 "BelfryBox$Names" "places" "[I" : Cond) ∈ gw := List.mem_filter.mpr ⟨List.mem_append_right _ (tb1 (List.mem_of_getElem? (i := 171) rfl)), rfl⟩
set_option maxRecDepth 100000 in
theorem w_14 : (Cond.fieldLink "BelfryBox$Names" 15 "BelfryBox$Names" "letters" "[I" : Cond) ∈ gw := List.mem_filter.mpr ⟨List.mem_append_right _ (tb1 (List.mem_of_getElem? (i := 172) rfl)), rfl⟩
set_option maxRecDepth 100000 in
theorem w_15 : (Cond.fieldLink "BelfryBox$Names" 18 "BelfryBox$Names" "values" "[I" : Cond) ∈ gw := List.mem_filter.mpr ⟨List.mem_append_right _ (tb1 (List.mem_of_getElem? (i := 173) rfl)), rfl⟩
set_option maxRecDepth 100000 in
theorem w_16 : (Cond.fieldLink "BelfryBox$Names" 21 "BelfryBox$Names" "equations" "[I" : Cond) ∈ gw := List.mem_filter.mpr ⟨List.mem_append_right _ (tb1 (List.mem_of_getElem? (i := 174) rfl)), rfl⟩
set_option maxRecDepth 100000 in
theorem w_17 : (Cond.methodLink "BelfryBox$Devices" 3 ⟨"java/lang/Object", "<init>", "()V"⟩ : Cond) ∈ gw := List.mem_filter.mpr ⟨List.mem_append_right _ (tb1 (List.mem_of_getElem? (i := 32) rfl)), rfl⟩
set_option maxRecDepth 100000 in
theorem w_18 : (Cond.fieldLink "BelfryBox$Devices" 9 "BelfryBox$Devices" "pins" "[I" : Cond) ∈ gw := List.mem_filter.mpr ⟨List.mem_append_right _ (tb1 (List.mem_of_getElem? (i := 34) rfl)), rfl⟩
set_option maxRecDepth 100000 in
theorem w_19 : (Cond.fieldLink "BelfryBox$Devices" 15 "BelfryBox$Devices" "waiting" "[I" : Cond) ∈ gw := List.mem_filter.mpr ⟨List.mem_append_right _ (tb1 (List.mem_of_getElem? (i := 36) rfl)), rfl⟩
set_option maxRecDepth 100000 in
theorem w_20 : (Cond.fieldLink "BelfryBox$Devices" 18 "BelfryBox$Devices" "rings" "[I" : Cond) ∈ gw := List.mem_filter.mpr ⟨List.mem_append_right _ (tb1 (List.mem_of_getElem? (i := 37) rfl)), rfl⟩
set_option maxRecDepth 100000 in
theorem w_21 : (Cond.fieldLink "BelfryBox$Devices" 21 "BelfryBox$Devices" "paper" "[I" : Cond) ∈ gw := List.mem_filter.mpr ⟨List.mem_append_right _ (tb1 (List.mem_of_getElem? (i := 39) rfl)), rfl⟩
set_option maxRecDepth 100000 in
theorem w_22 : (Cond.fieldLink "BelfryBox$Devices" 24 "BelfryBox$Devices" "now" "[I" : Cond) ∈ gw := List.mem_filter.mpr ⟨List.mem_append_right _ (tb1 (List.mem_of_getElem? (i := 33) rfl)), rfl⟩
set_option maxRecDepth 100000 in
theorem w_23 : (Cond.methodLink "BelfryBox$Processor" 3 ⟨"java/lang/Object", "<init>", "()V"⟩ : Cond) ∈ gw := List.mem_filter.mpr ⟨List.mem_append_right _ (tb1 (List.mem_of_getElem? (i := 75) rfl)), rfl⟩
set_option maxRecDepth 100000 in
theorem w_24 : (Cond.fieldLink "BelfryBox$Processor" 9 "BelfryBox$Processor" "counts" "[I" : Cond) ∈ gw := List.mem_filter.mpr ⟨List.mem_append_right _ (tb1 (List.mem_of_getElem? (i := 80) rfl)), rfl⟩
set_option maxRecDepth 100000 in
theorem w_25 : (Cond.fieldLink "BelfryBox$Processor" 15 "BelfryBox$Processor" "now" "[I" : Cond) ∈ gw := List.mem_filter.mpr ⟨List.mem_append_right _ (tb1 (List.mem_of_getElem? (i := 76) rfl)), rfl⟩
set_option maxRecDepth 100000 in
theorem w_26 : (Cond.fieldLink "BelfryBox$Processor" 18 "BelfryBox$Processor" "store" "[I" : Cond) ∈ gw := List.mem_filter.mpr ⟨List.mem_append_right _ (tb1 (List.mem_of_getElem? (i := 77) rfl)), rfl⟩
set_option maxRecDepth 100000 in
theorem w_27 : (Cond.fieldLink "BelfryBox$Processor" 21 "BelfryBox$Processor" "devices" "LBelfryBox$Devices;" : Cond) ∈ gw := List.mem_filter.mpr ⟨List.mem_append_right _ (tb1 (List.mem_of_getElem? (i := 78) rfl)), rfl⟩
set_option maxRecDepth 100000 in
theorem w_28 : (Cond.fieldLink "BelfryBox$Processor" 25 "BelfryBox$Processor" "past" "LBelfryBox$Past;" : Cond) ∈ gw := List.mem_filter.mpr ⟨List.mem_append_right _ (tb1 (List.mem_of_getElem? (i := 79) rfl)), rfl⟩
set_option maxRecDepth 100000 in
theorem w_29 : (Cond.methodLink "BelfryBox$Assembler" 3 ⟨"java/lang/Object", "<init>", "()V"⟩ : Cond) ∈ gw := List.mem_filter.mpr ⟨List.mem_append_right _ (tb1 (List.mem_of_getElem? (i := 164) rfl)), rfl⟩
set_option maxRecDepth 100000 in
theorem w_30 : (Cond.fieldLink "BelfryBox$Assembler" 9 "BelfryBox$Assembler" "image" "[I" : Cond) ∈ gw := List.mem_filter.mpr ⟨List.mem_append_right _ (tb1 (List.mem_of_getElem? (i := 190) rfl)), rfl⟩
set_option maxRecDepth 100000 in
theorem w_31 : (Cond.classLink "BelfryBox$Assembler" 15 "BelfryBox$Names" : Cond) ∈ gw := List.mem_filter.mpr ⟨List.mem_append_right _ (tb1 (List.mem_of_getElem? (i := 165) rfl)), rfl⟩
set_option maxRecDepth 100000 in
theorem w_32 : (Cond.instantiable "BelfryBox$Names" 5 : Cond) ∈ gw := List.mem_filter.mpr ⟨List.mem_append_right _ (tb1 (List.mem_of_getElem? (i := 166) rfl)), rfl⟩
set_option maxRecDepth 100000 in
theorem w_33 : (Cond.initialized "BelfryBox$Names" : Cond) ∈ gw := List.mem_filter.mpr ⟨List.mem_append_right _ (tb1 (List.mem_of_getElem? (i := 8) rfl)), rfl⟩
set_option maxRecDepth 100000 in
theorem w_34 : (Cond.code yX2_init prog_4_method_1_code 1 (Option.none : Option Jvm.ClassFile.FieldType) : Cond) ∈ gw := List.mem_filter.mpr ⟨List.mem_append_right _ (tb1 (List.mem_of_getElem? (i := 169) rfl)), rfl⟩
set_option maxRecDepth 100000 in
theorem w_35 : (Cond.instanceMethod yX2_init : Cond) ∈ gw := List.mem_filter.mpr ⟨List.mem_append_right _ (tb1 (List.mem_of_getElem? (i := 168) rfl)), rfl⟩
set_option maxRecDepth 100000 in
theorem w_36 : (Cond.fieldLink "BelfryBox$Assembler" 18 "BelfryBox$Assembler" "told" "LBelfryBox$Names;" : Cond) ∈ gw := List.mem_filter.mpr ⟨List.mem_append_right _ (tb1 (List.mem_of_getElem? (i := 191) rfl)), rfl⟩
set_option maxRecDepth 100000 in
theorem w_37 : (Cond.fieldLink "BelfryBox$Assembler" 22 "BelfryBox$Assembler" "settled" "LBelfryBox$Names;" : Cond) ∈ gw := List.mem_filter.mpr ⟨List.mem_append_right _ (tb1 (List.mem_of_getElem? (i := 192) rfl)), rfl⟩
set_option maxRecDepth 100000 in
theorem w_38 : (Cond.fieldLink "BelfryBox$Assembler" 25 "BelfryBox$Assembler" "faultKind" "I" : Cond) ∈ gw := List.mem_filter.mpr ⟨List.mem_append_right _ (tb1 (List.mem_of_getElem? (i := 194) rfl)), rfl⟩
set_option maxRecDepth 100000 in
theorem w_39 : (Cond.fieldLink "BelfryBox$Assembler" 29 "BelfryBox$Assembler" "faultPlace" "I" : Cond) ∈ gw := List.mem_filter.mpr ⟨List.mem_append_right _ (tb1 (List.mem_of_getElem? (i := 196) rfl)), rfl⟩
set_option maxRecDepth 100000 in
theorem w_40 : (Cond.fieldLink "BelfryBox$Assembler" 32 "BelfryBox$Assembler" "tape" "LBelfryBox$Tape;" : Cond) ∈ gw := List.mem_filter.mpr ⟨List.mem_append_right _ (tb1 (List.mem_of_getElem? (i := 189) rfl)), rfl⟩
theorem nw_21 : (Cond.methodLinkNest "BelfryBox$Assembler" 17 yX2_init "BelfryBox" : Cond) ∈ nests := List.mem_of_getElem? (i := 21) rfl
theorem dX6_init_0 : decode cX6_init 0 = .ok (.aload_n 0, 1) := by decide +kernel
theorem dX6_init_1 : decode cX6_init 1 = .ok (.invokespecial 3, 3) := by decide +kernel
theorem dX6_init_4 : decode cX6_init 4 = .ok (.aload_n 0, 1) := by decide +kernel
theorem dX6_init_5 : decode cX6_init 5 = .ok (.bipush 16, 2) := by decide +kernel
theorem dX6_init_7 : decode cX6_init 7 = .ok (.newarray .int, 2) := by decide +kernel
theorem dX6_init_9 : decode cX6_init 9 = .ok (.putfield 11, 3) := by decide +kernel
theorem dX6_init_12 : decode cX6_init 12 = .ok (.return_, 1) := by decide +kernel
theorem dX3_init_0 : decode cX3_init 0 = .ok (.aload_n 0, 1) := by decide +kernel
theorem dX3_init_1 : decode cX3_init 1 = .ok (.invokespecial 5, 3) := by decide +kernel
theorem dX3_init_4 : decode cX3_init 4 = .ok (.aload_n 0, 1) := by decide +kernel
theorem dX3_init_5 : decode cX3_init 5 = .ok (.sipush 10752, 3) := by decide +kernel
theorem dX3_init_8 : decode cX3_init 8 = .ok (.newarray .int, 2) := by decide +kernel
theorem dX3_init_10 : decode cX3_init 10 = .ok (.putfield 11, 3) := by decide +kernel
theorem dX3_init_13 : decode cX3_init 13 = .ok (.return_, 1) := by decide +kernel
theorem dX5_init_0 : decode cX5_init 0 = .ok (.aload_n 0, 1) := by decide +kernel
theorem dX5_init_1 : decode cX5_init 1 = .ok (.invokespecial 3, 3) := by decide +kernel
theorem dX5_init_4 : decode cX5_init 4 = .ok (.aload_n 0, 1) := by decide +kernel
theorem dX5_init_5 : decode cX5_init 5 = .ok (.bipush 16, 2) := by decide +kernel
theorem dX5_init_7 : decode cX5_init 7 = .ok (.newarray .int, 2) := by decide +kernel
theorem dX5_init_9 : decode cX5_init 9 = .ok (.putfield 11, 3) := by decide +kernel
theorem dX5_init_12 : decode cX5_init 12 = .ok (.return_, 1) := by decide +kernel
theorem dX7_init_0 : decode cX7_init 0 = .ok (.aload_n 0, 1) := by decide +kernel
theorem dX7_init_1 : decode cX7_init 1 = .ok (.invokespecial 3, 3) := by decide +kernel
theorem dX7_init_4 : decode cX7_init 4 = .ok (.aload_n 0, 1) := by decide +kernel
theorem dX7_init_5 : decode cX7_init 5 = .ok (.sipush 6000, 3) := by decide +kernel
theorem dX7_init_8 : decode cX7_init 8 = .ok (.newarray .int, 2) := by decide +kernel
theorem dX7_init_10 : decode cX7_init 10 = .ok (.putfield 11, 3) := by decide +kernel
theorem dX7_init_13 : decode cX7_init 13 = .ok (.return_, 1) := by decide +kernel
theorem dX2_init_0 : decode cX2_init 0 = .ok (.aload_n 0, 1) := by decide +kernel
theorem dX2_init_1 : decode cX2_init 1 = .ok (.invokespecial 3, 3) := by decide +kernel
theorem dX2_init_4 : decode cX2_init 4 = .ok (.aload_n 0, 1) := by decide +kernel
theorem dX2_init_5 : decode cX2_init 5 = .ok (.bipush 60, 2) := by decide +kernel
theorem dX2_init_7 : decode cX2_init 7 = .ok (.newarray .int, 2) := by decide +kernel
theorem dX2_init_9 : decode cX2_init 9 = .ok (.putfield 11, 3) := by decide +kernel
theorem dX2_init_12 : decode cX2_init 12 = .ok (.aload_n 0, 1) := by decide +kernel
theorem dX2_init_13 : decode cX2_init 13 = .ok (.bipush 60, 2) := by decide +kernel
theorem dX2_init_15 : decode cX2_init 15 = .ok (.newarray .int, 2) := by decide +kernel
theorem dX2_init_17 : decode cX2_init 17 = .ok (.putfield 15, 3) := by decide +kernel
theorem dX2_init_20 : decode cX2_init 20 = .ok (.aload_n 0, 1) := by decide +kernel
theorem dX2_init_21 : decode cX2_init 21 = .ok (.bipush 60, 2) := by decide +kernel
theorem dX2_init_23 : decode cX2_init 23 = .ok (.newarray .int, 2) := by decide +kernel
theorem dX2_init_25 : decode cX2_init 25 = .ok (.putfield 18, 3) := by decide +kernel
theorem dX2_init_28 : decode cX2_init 28 = .ok (.aload_n 0, 1) := by decide +kernel
theorem dX2_init_29 : decode cX2_init 29 = .ok (.bipush 60, 2) := by decide +kernel
theorem dX2_init_31 : decode cX2_init 31 = .ok (.newarray .int, 2) := by decide +kernel
theorem dX2_init_33 : decode cX2_init 33 = .ok (.putfield 21, 3) := by decide +kernel
theorem dX2_init_36 : decode cX2_init 36 = .ok (.return_, 1) := by decide +kernel
theorem dX1_init_0 : decode cX1_init 0 = .ok (.aload_n 0, 1) := by decide +kernel
theorem dX1_init_1 : decode cX1_init 1 = .ok (.invokespecial 3, 3) := by decide +kernel
theorem dX1_init_4 : decode cX1_init 4 = .ok (.aload_n 0, 1) := by decide +kernel
theorem dX1_init_5 : decode cX1_init 5 = .ok (.bipush 64, 2) := by decide +kernel
theorem dX1_init_7 : decode cX1_init 7 = .ok (.newarray .int, 2) := by decide +kernel
theorem dX1_init_9 : decode cX1_init 9 = .ok (.putfield 9, 3) := by decide +kernel
theorem dX1_init_12 : decode cX1_init 12 = .ok (.aload_n 0, 1) := by decide +kernel
theorem dX1_init_13 : decode cX1_init 13 = .ok (.bipush 16, 2) := by decide +kernel
theorem dX1_init_15 : decode cX1_init 15 = .ok (.newarray .int, 2) := by decide +kernel
theorem dX1_init_17 : decode cX1_init 17 = .ok (.putfield 15, 3) := by decide +kernel
theorem dX1_init_20 : decode cX1_init 20 = .ok (.aload_n 0, 1) := by decide +kernel
theorem dX1_init_21 : decode cX1_init 21 = .ok (.sipush 900, 3) := by decide +kernel
theorem dX1_init_24 : decode cX1_init 24 = .ok (.newarray .int, 2) := by decide +kernel
theorem dX1_init_26 : decode cX1_init 26 = .ok (.putfield 18, 3) := by decide +kernel
theorem dX1_init_29 : decode cX1_init 29 = .ok (.aload_n 0, 1) := by decide +kernel
theorem dX1_init_30 : decode cX1_init 30 = .ok (.sipush 200, 3) := by decide +kernel
theorem dX1_init_33 : decode cX1_init 33 = .ok (.newarray .int, 2) := by decide +kernel
theorem dX1_init_35 : decode cX1_init 35 = .ok (.putfield 21, 3) := by decide +kernel
theorem dX1_init_38 : decode cX1_init 38 = .ok (.aload_n 0, 1) := by decide +kernel
theorem dX1_init_39 : decode cX1_init 39 = .ok (.aload_n 1, 1) := by decide +kernel
theorem dX1_init_40 : decode cX1_init 40 = .ok (.putfield 24, 3) := by decide +kernel
theorem dX1_init_43 : decode cX1_init 43 = .ok (.return_, 1) := by decide +kernel
theorem dX4_init_0 : decode cX4_init 0 = .ok (.aload_n 0, 1) := by decide +kernel
theorem dX4_init_1 : decode cX4_init 1 = .ok (.invokespecial 3, 3) := by decide +kernel
theorem dX4_init_4 : decode cX4_init 4 = .ok (.aload_n 0, 1) := by decide +kernel
theorem dX4_init_5 : decode cX4_init 5 = .ok (.sipush 257, 3) := by decide +kernel
theorem dX4_init_8 : decode cX4_init 8 = .ok (.newarray .int, 2) := by decide +kernel
theorem dX4_init_10 : decode cX4_init 10 = .ok (.putfield 9, 3) := by decide +kernel
theorem dX4_init_13 : decode cX4_init 13 = .ok (.aload_n 0, 1) := by decide +kernel
theorem dX4_init_14 : decode cX4_init 14 = .ok (.aload_n 1, 1) := by decide +kernel
theorem dX4_init_15 : decode cX4_init 15 = .ok (.putfield 15, 3) := by decide +kernel
theorem dX4_init_18 : decode cX4_init 18 = .ok (.aload_n 0, 1) := by decide +kernel
theorem dX4_init_19 : decode cX4_init 19 = .ok (.aload_n 2, 1) := by decide +kernel
theorem dX4_init_20 : decode cX4_init 20 = .ok (.putfield 18, 3) := by decide +kernel
theorem dX4_init_23 : decode cX4_init 23 = .ok (.aload_n 0, 1) := by decide +kernel
theorem dX4_init_24 : decode cX4_init 24 = .ok (.aload_n 3, 1) := by decide +kernel
theorem dX4_init_25 : decode cX4_init 25 = .ok (.putfield 21, 3) := by decide +kernel
theorem dX4_init_28 : decode cX4_init 28 = .ok (.aload_n 0, 1) := by decide +kernel
theorem dX4_init_29 : decode cX4_init 29 = .ok (.aload 4, 2) := by decide +kernel
theorem dX4_init_31 : decode cX4_init 31 = .ok (.putfield 25, 3) := by decide +kernel
theorem dX4_init_34 : decode cX4_init 34 = .ok (.return_, 1) := by decide +kernel
theorem dX0_init_0 : decode cX0_init 0 = .ok (.aload_n 0, 1) := by decide +kernel
theorem dX0_init_1 : decode cX0_init 1 = .ok (.invokespecial 3, 3) := by decide +kernel
theorem dX0_init_4 : decode cX0_init 4 = .ok (.aload_n 0, 1) := by decide +kernel
theorem dX0_init_5 : decode cX0_init 5 = .ok (.sipush 4096, 3) := by decide +kernel
theorem dX0_init_8 : decode cX0_init 8 = .ok (.newarray .int, 2) := by decide +kernel
theorem dX0_init_10 : decode cX0_init 10 = .ok (.putfield 9, 3) := by decide +kernel
theorem dX0_init_13 : decode cX0_init 13 = .ok (.aload_n 0, 1) := by decide +kernel
theorem dX0_init_14 : decode cX0_init 14 = .ok (.new 15, 3) := by decide +kernel
theorem dX0_init_17 : decode cX0_init 17 = .ok (.dup, 1) := by decide +kernel
theorem dX0_init_18 : decode cX0_init 18 = .ok (.invokespecial 17, 3) := by decide +kernel
theorem dX0_init_21 : decode cX0_init 21 = .ok (.putfield 18, 3) := by decide +kernel
theorem dX0_init_24 : decode cX0_init 24 = .ok (.aload_n 0, 1) := by decide +kernel
theorem dX0_init_25 : decode cX0_init 25 = .ok (.new 15, 3) := by decide +kernel
theorem dX0_init_28 : decode cX0_init 28 = .ok (.dup, 1) := by decide +kernel
theorem dX0_init_29 : decode cX0_init 29 = .ok (.invokespecial 17, 3) := by decide +kernel
theorem dX0_init_32 : decode cX0_init 32 = .ok (.putfield 22, 3) := by decide +kernel
theorem dX0_init_35 : decode cX0_init 35 = .ok (.aload_n 0, 1) := by decide +kernel
theorem dX0_init_36 : decode cX0_init 36 = .ok (.iconst (-1), 1) := by decide +kernel
theorem dX0_init_37 : decode cX0_init 37 = .ok (.putfield 25, 3) := by decide +kernel
theorem dX0_init_40 : decode cX0_init 40 = .ok (.aload_n 0, 1) := by decide +kernel
theorem dX0_init_41 : decode cX0_init 41 = .ok (.iconst (-1), 1) := by decide +kernel
theorem dX0_init_42 : decode cX0_init 42 = .ok (.putfield 29, 3) := by decide +kernel
theorem dX0_init_45 : decode cX0_init 45 = .ok (.aload_n 0, 1) := by decide +kernel
theorem dX0_init_46 : decode cX0_init 46 = .ok (.aload_n 1, 1) := by decide +kernel
theorem dX0_init_47 : decode cX0_init 47 = .ok (.putfield 32, 3) := by decide +kernel
theorem dX0_init_50 : decode cX0_init 50 = .ok (.return_, 1) := by decide +kernel
set_option maxHeartbeats 4000000 in
set_option maxRecDepth 100000 in
theorem c_Stops_init (l : Launch) (D : va_G) (cA cB : ClassId) (h0 : Nat)  : CV l yX6_init cX6_init 1 none 1 12 1 16 D cA cB [.ref h0] [(h0, .inr (6, [.null, .int 0]))] (fun W1 => ∃ (qp : Nat), W1 = [(h0, .inr (6, [.ref qp, .int 0])), (qp, .inl (cA, 16, .inl (fun _ => 0)))]) := by
  refine mkV (lv0 := [(0, .ref h0)]) (by decide) (Nat.le_of_ble_eq_true rfl) rfl ?_
  intro p e s m below meth c A ls X hr hlocks hnm hE hA hP hD hS hl
  have hx := X.1
  have hb := X.2.1
  refine lv_aload_n hx hb dX6_init_0 rfl (lv_at hl 0 rfl) ?_
  refine k_obj X w_1 w_2 w_3 hl.1 (Nat.le_of_ble_eq_true rfl) (Nat.le_of_ble_eq_true rfl) dX6_init_1 ?_
  refine lv_aload_n hx hb dX6_init_4 rfl (lv_at hl 0 rfl) ?_
  refine lv_bipush (v := 16) hx hb dX6_init_5 (by decide) ?_
  refine k_newa X w_4 hE hP hD hS hA 16 rfl (by decide) (by decide) (by decide) dX6_init_7 (fun qa_1 H hP hD hS => ?_)
  have hP : va_P D classes [(h0, .inr (6, [.null, .int 0])), (qa_1, .inl (cA, 16, .inl (fun _ => 0)))] H := hP
  have hD : va_D A [(h0, .inr (6, [.null, .int 0])), (qa_1, .inl (cA, 16, .inl (fun _ => 0)))] := hD
  refine k_putF (C := RX6) (T := TX6) (N := 2) (ci := 6) (v := .ref qa_1) (ty := (.array .int)) X hE hP hD hS 0 rfl rfl iX6 tyX6 tyX6_ok nmX6 0 (by decide) w_5 rfl hnm rfl (by decide +kernel) rfl rfl (Nat.le_of_ble_eq_true rfl) [(h0, .inr (6, [.ref qa_1, .int 0])), (qa_1, .inl (cA, 16, .inl (fun _ => 0)))] rfl dX6_init_9 (fun H locs hP hD hS => ?_)
  exact endV X hr hlocks hP hD hS dX6_init_12 ⟨qa_1, rfl⟩
set_option maxHeartbeats 4000000 in
set_option maxRecDepth 100000 in
theorem c_Past_init (l : Launch) (D : va_G) (cA cB : ClassId) (h0 : Nat)  : CV l yX3_init cX3_init 1 none 1 12 1 10752 D cA cB [.ref h0] [(h0, .inr (3, [.null, .int 0, .int 0]))] (fun W1 => ∃ (qe : Nat), W1 = [(h0, .inr (3, [.ref qe, .int 0, .int 0])), (qe, .inl (cA, 10752, .inl (fun _ => 0)))]) := by
  refine mkV (lv0 := [(0, .ref h0)]) (by decide) (Nat.le_of_ble_eq_true rfl) rfl ?_
  intro p e s m below meth c A ls X hr hlocks hnm hE hA hP hD hS hl
  have hx := X.1
  have hb := X.2.1
  refine lv_aload_n hx hb dX3_init_0 rfl (lv_at hl 0 rfl) ?_
  refine k_obj X w_6 w_2 w_3 hl.1 (Nat.le_of_ble_eq_true rfl) (Nat.le_of_ble_eq_true rfl) dX3_init_1 ?_
  refine lv_aload_n hx hb dX3_init_4 rfl (lv_at hl 0 rfl) ?_
  refine lv_sipush (v := 10752) hx hb dX3_init_5 (by decide) ?_
  refine k_newa X w_4 hE hP hD hS hA 10752 rfl (by decide) (by decide) (by decide) dX3_init_8 (fun qa_1 H hP hD hS => ?_)
  have hP : va_P D classes [(h0, .inr (3, [.null, .int 0, .int 0])), (qa_1, .inl (cA, 10752, .inl (fun _ => 0)))] H := hP
  have hD : va_D A [(h0, .inr (3, [.null, .int 0, .int 0])), (qa_1, .inl (cA, 10752, .inl (fun _ => 0)))] := hD
  refine k_putF (C := RX3) (T := TX3) (N := 3) (ci := 3) (v := .ref qa_1) (ty := (.array .int)) X hE hP hD hS 0 rfl rfl iX3 tyX3 tyX3_ok nmX3 0 (by decide) w_7 rfl hnm rfl (by decide +kernel) rfl rfl (Nat.le_of_ble_eq_true rfl) [(h0, .inr (3, [.ref qa_1, .int 0, .int 0])), (qa_1, .inl (cA, 10752, .inl (fun _ => 0)))] rfl dX3_init_10 (fun H locs hP hD hS => ?_)
  exact endV X hr hlocks hP hD hS dX3_init_13 ⟨qa_1, rfl⟩
set_option maxHeartbeats 4000000 in
set_option maxRecDepth 100000 in
theorem c_Reader_init (l : Launch) (D : va_G) (cA cB : ClassId) (h0 : Nat)  : CV l yX5_init cX5_init 1 none 1 12 1 16 D cA cB [.ref h0] [(h0, .inr (5, [.null, .int 0]))] (fun W1 => ∃ (ql : Nat), W1 = [(h0, .inr (5, [.ref ql, .int 0])), (ql, .inl (cA, 16, .inl (fun _ => 0)))]) := by
  refine mkV (lv0 := [(0, .ref h0)]) (by decide) (Nat.le_of_ble_eq_true rfl) rfl ?_
  intro p e s m below meth c A ls X hr hlocks hnm hE hA hP hD hS hl
  have hx := X.1
  have hb := X.2.1
  refine lv_aload_n hx hb dX5_init_0 rfl (lv_at hl 0 rfl) ?_
  refine k_obj X w_8 w_2 w_3 hl.1 (Nat.le_of_ble_eq_true rfl) (Nat.le_of_ble_eq_true rfl) dX5_init_1 ?_
  refine lv_aload_n hx hb dX5_init_4 rfl (lv_at hl 0 rfl) ?_
  refine lv_bipush (v := 16) hx hb dX5_init_5 (by decide) ?_
  refine k_newa X w_4 hE hP hD hS hA 16 rfl (by decide) (by decide) (by decide) dX5_init_7 (fun qa_1 H hP hD hS => ?_)
  have hP : va_P D classes [(h0, .inr (5, [.null, .int 0])), (qa_1, .inl (cA, 16, .inl (fun _ => 0)))] H := hP
  have hD : va_D A [(h0, .inr (5, [.null, .int 0])), (qa_1, .inl (cA, 16, .inl (fun _ => 0)))] := hD
  refine k_putF (C := RX5) (T := TX5) (N := 2) (ci := 5) (v := .ref qa_1) (ty := (.array .int)) X hE hP hD hS 0 rfl rfl iX5 tyX5 tyX5_ok nmX5 0 (by decide) w_9 rfl hnm rfl (by decide +kernel) rfl rfl (Nat.le_of_ble_eq_true rfl) [(h0, .inr (5, [.ref qa_1, .int 0])), (qa_1, .inl (cA, 16, .inl (fun _ => 0)))] rfl dX5_init_9 (fun H locs hP hD hS => ?_)
  exact endV X hr hlocks hP hD hS dX5_init_12 ⟨qa_1, rfl⟩
set_option maxHeartbeats 4000000 in
set_option maxRecDepth 100000 in
theorem c_Tape_init (l : Launch) (D : va_G) (cA cB : ClassId) (h0 : Nat)  : CV l yX7_init cX7_init 1 none 1 12 1 6000 D cA cB [.ref h0] [(h0, .inr (7, [.null, .int 0, .int 0, .int 0, .int 0, .int 0, .int 0, .int 0, .int 0]))] (fun W1 => ∃ (qb : Nat), W1 = [(h0, .inr (7, [.ref qb, .int 0, .int 0, .int 0, .int 0, .int 0, .int 0, .int 0, .int 0])), (qb, .inl (cA, 6000, .inl (fun _ => 0)))]) := by
  refine mkV (lv0 := [(0, .ref h0)]) (by decide) (Nat.le_of_ble_eq_true rfl) rfl ?_
  intro p e s m below meth c A ls X hr hlocks hnm hE hA hP hD hS hl
  have hx := X.1
  have hb := X.2.1
  refine lv_aload_n hx hb dX7_init_0 rfl (lv_at hl 0 rfl) ?_
  refine k_obj X w_10 w_2 w_3 hl.1 (Nat.le_of_ble_eq_true rfl) (Nat.le_of_ble_eq_true rfl) dX7_init_1 ?_
  refine lv_aload_n hx hb dX7_init_4 rfl (lv_at hl 0 rfl) ?_
  refine lv_sipush (v := 6000) hx hb dX7_init_5 (by decide) ?_
  refine k_newa X w_4 hE hP hD hS hA 6000 rfl (by decide) (by decide) (by decide) dX7_init_8 (fun qa_1 H hP hD hS => ?_)
  have hP : va_P D classes [(h0, .inr (7, [.null, .int 0, .int 0, .int 0, .int 0, .int 0, .int 0, .int 0, .int 0])), (qa_1, .inl (cA, 6000, .inl (fun _ => 0)))] H := hP
  have hD : va_D A [(h0, .inr (7, [.null, .int 0, .int 0, .int 0, .int 0, .int 0, .int 0, .int 0, .int 0])), (qa_1, .inl (cA, 6000, .inl (fun _ => 0)))] := hD
  refine k_putF (C := RX7) (T := TX7) (N := 9) (ci := 7) (v := .ref qa_1) (ty := (.array .int)) X hE hP hD hS 0 rfl rfl iX7 tyX7 tyX7_ok nmX7 0 (by decide) w_11 rfl hnm rfl (by decide +kernel) rfl rfl (Nat.le_of_ble_eq_true rfl) [(h0, .inr (7, [.ref qa_1, .int 0, .int 0, .int 0, .int 0, .int 0, .int 0, .int 0, .int 0])), (qa_1, .inl (cA, 6000, .inl (fun _ => 0)))] rfl dX7_init_10 (fun H locs hP hD hS => ?_)
  exact endV X hr hlocks hP hD hS dX7_init_13 ⟨qa_1, rfl⟩
set_option maxHeartbeats 4000000 in
set_option maxRecDepth 100000 in
theorem c_Names_init (l : Launch) (D : va_G) (cA cB : ClassId) (h0 : Nat)  : CV l yX2_init cX2_init 1 none 1 12 4 240 D cA cB [.ref h0] [(h0, .inr (2, [.null, .null, .null, .null, .int 0]))] (fun W1 => ∃ (qa : Nat) (qb : Nat) (qc : Nat) (qd : Nat), W1 = [(h0, .inr (2, [.ref qa, .ref qb, .ref qc, .ref qd, .int 0])), (qa, .inl (cA, 60, .inl (fun _ => 0))), (qb, .inl (cA, 60, .inl (fun _ => 0))), (qc, .inl (cA, 60, .inl (fun _ => 0))), (qd, .inl (cA, 60, .inl (fun _ => 0)))]) := by
  refine mkV (lv0 := [(0, .ref h0)]) (by decide) (Nat.le_of_ble_eq_true rfl) rfl ?_
  intro p e s m below meth c A ls X hr hlocks hnm hE hA hP hD hS hl
  have hx := X.1
  have hb := X.2.1
  refine lv_aload_n hx hb dX2_init_0 rfl (lv_at hl 0 rfl) ?_
  refine k_obj X w_12 w_2 w_3 hl.1 (Nat.le_of_ble_eq_true rfl) (Nat.le_of_ble_eq_true rfl) dX2_init_1 ?_
  refine lv_aload_n hx hb dX2_init_4 rfl (lv_at hl 0 rfl) ?_
  refine lv_bipush (v := 60) hx hb dX2_init_5 (by decide) ?_
  refine k_newa X w_4 hE hP hD hS hA 60 rfl (by decide) (by decide) (by decide) dX2_init_7 (fun qa_1 H hP hD hS => ?_)
  have hP : va_P D classes [(h0, .inr (2, [.null, .null, .null, .null, .int 0])), (qa_1, .inl (cA, 60, .inl (fun _ => 0)))] H := hP
  have hD : va_D A [(h0, .inr (2, [.null, .null, .null, .null, .int 0])), (qa_1, .inl (cA, 60, .inl (fun _ => 0)))] := hD
  refine k_putF (C := RX2) (T := TX2) (N := 5) (ci := 2) (v := .ref qa_1) (ty := (.array .int)) X hE hP hD hS 0 rfl rfl iX2 tyX2 tyX2_ok nmX2 0 (by decide) w_13 rfl hnm rfl (by decide +kernel) rfl rfl (Nat.le_of_ble_eq_true rfl) [(h0, .inr (2, [.ref qa_1, .null, .null, .null, .int 0])), (qa_1, .inl (cA, 60, .inl (fun _ => 0)))] rfl dX2_init_9 (fun H locs hP hD hS => ?_)
  refine lv_aload_n hx hb dX2_init_12 rfl (lv_at hl 0 rfl) ?_
  refine lv_bipush (v := 60) hx hb dX2_init_13 (by decide) ?_
  refine k_newa X w_4 hE hP hD hS hA 60 rfl (by decide) (by decide) (by decide) dX2_init_15 (fun qa_2 H hP hD hS => ?_)
  have hP : va_P D classes [(h0, .inr (2, [.ref qa_1, .null, .null, .null, .int 0])), (qa_1, .inl (cA, 60, .inl (fun _ => 0))), (qa_2, .inl (cA, 60, .inl (fun _ => 0)))] H := hP
  have hD : va_D A [(h0, .inr (2, [.ref qa_1, .null, .null, .null, .int 0])), (qa_1, .inl (cA, 60, .inl (fun _ => 0))), (qa_2, .inl (cA, 60, .inl (fun _ => 0)))] := hD
  refine k_putF (C := RX2) (T := TX2) (N := 5) (ci := 2) (v := .ref qa_2) (ty := (.array .int)) X hE hP hD hS 0 rfl rfl iX2 tyX2 tyX2_ok nmX2 1 (by decide) w_14 rfl hnm rfl (by decide +kernel) rfl rfl (Nat.le_of_ble_eq_true rfl) [(h0, .inr (2, [.ref qa_1, .ref qa_2, .null, .null, .int 0])), (qa_1, .inl (cA, 60, .inl (fun _ => 0))), (qa_2, .inl (cA, 60, .inl (fun _ => 0)))] rfl dX2_init_17 (fun H locs hP hD hS => ?_)
  refine lv_aload_n hx hb dX2_init_20 rfl (lv_at hl 0 rfl) ?_
  refine lv_bipush (v := 60) hx hb dX2_init_21 (by decide) ?_
  refine k_newa X w_4 hE hP hD hS hA 60 rfl (by decide) (by decide) (by decide) dX2_init_23 (fun qa_3 H hP hD hS => ?_)
  have hP : va_P D classes [(h0, .inr (2, [.ref qa_1, .ref qa_2, .null, .null, .int 0])), (qa_1, .inl (cA, 60, .inl (fun _ => 0))), (qa_2, .inl (cA, 60, .inl (fun _ => 0))), (qa_3, .inl (cA, 60, .inl (fun _ => 0)))] H := hP
  have hD : va_D A [(h0, .inr (2, [.ref qa_1, .ref qa_2, .null, .null, .int 0])), (qa_1, .inl (cA, 60, .inl (fun _ => 0))), (qa_2, .inl (cA, 60, .inl (fun _ => 0))), (qa_3, .inl (cA, 60, .inl (fun _ => 0)))] := hD
  refine k_putF (C := RX2) (T := TX2) (N := 5) (ci := 2) (v := .ref qa_3) (ty := (.array .int)) X hE hP hD hS 0 rfl rfl iX2 tyX2 tyX2_ok nmX2 2 (by decide) w_15 rfl hnm rfl (by decide +kernel) rfl rfl (Nat.le_of_ble_eq_true rfl) [(h0, .inr (2, [.ref qa_1, .ref qa_2, .ref qa_3, .null, .int 0])), (qa_1, .inl (cA, 60, .inl (fun _ => 0))), (qa_2, .inl (cA, 60, .inl (fun _ => 0))), (qa_3, .inl (cA, 60, .inl (fun _ => 0)))] rfl dX2_init_25 (fun H locs hP hD hS => ?_)
  refine lv_aload_n hx hb dX2_init_28 rfl (lv_at hl 0 rfl) ?_
  refine lv_bipush (v := 60) hx hb dX2_init_29 (by decide) ?_
  refine k_newa X w_4 hE hP hD hS hA 60 rfl (by decide) (by decide) (by decide) dX2_init_31 (fun qa_4 H hP hD hS => ?_)
  have hP : va_P D classes [(h0, .inr (2, [.ref qa_1, .ref qa_2, .ref qa_3, .null, .int 0])), (qa_1, .inl (cA, 60, .inl (fun _ => 0))), (qa_2, .inl (cA, 60, .inl (fun _ => 0))), (qa_3, .inl (cA, 60, .inl (fun _ => 0))), (qa_4, .inl (cA, 60, .inl (fun _ => 0)))] H := hP
  have hD : va_D A [(h0, .inr (2, [.ref qa_1, .ref qa_2, .ref qa_3, .null, .int 0])), (qa_1, .inl (cA, 60, .inl (fun _ => 0))), (qa_2, .inl (cA, 60, .inl (fun _ => 0))), (qa_3, .inl (cA, 60, .inl (fun _ => 0))), (qa_4, .inl (cA, 60, .inl (fun _ => 0)))] := hD
  refine k_putF (C := RX2) (T := TX2) (N := 5) (ci := 2) (v := .ref qa_4) (ty := (.array .int)) X hE hP hD hS 0 rfl rfl iX2 tyX2 tyX2_ok nmX2 3 (by decide) w_16 rfl hnm rfl (by decide +kernel) rfl rfl (Nat.le_of_ble_eq_true rfl) [(h0, .inr (2, [.ref qa_1, .ref qa_2, .ref qa_3, .ref qa_4, .int 0])), (qa_1, .inl (cA, 60, .inl (fun _ => 0))), (qa_2, .inl (cA, 60, .inl (fun _ => 0))), (qa_3, .inl (cA, 60, .inl (fun _ => 0))), (qa_4, .inl (cA, 60, .inl (fun _ => 0)))] rfl dX2_init_33 (fun H locs hP hD hS => ?_)
  exact endV X hr hlocks hP hD hS dX2_init_36 ⟨qa_1, qa_2, qa_3, qa_4, rfl⟩
set_option maxHeartbeats 4000000 in
set_option maxRecDepth 100000 in
theorem c_Devices_init (l : Launch) (D : va_G) (cA cB : ClassId) (h0 : Nat) (h1 : Nat)  : CV l yX1_init cX1_init 2 none 1 12 4 1180 D cA cB [.ref h0, .ref h1] [(h0, .inr (1, [.null, .null, .null, .null, .null]))] (fun W1 => ∃ (qa : Nat) (qb : Nat) (qc : Nat) (qd : Nat), W1 = [(h0, .inr (1, [.ref h1, .ref qa, .ref qb, .ref qc, .ref qd])), (qa, .inl (cA, 64, .inl (fun _ => 0))), (qb, .inl (cA, 16, .inl (fun _ => 0))), (qc, .inl (cA, 900, .inl (fun _ => 0))), (qd, .inl (cA, 200, .inl (fun _ => 0)))]) := by
  refine mkV (lv0 := [(0, .ref h0), (1, .ref h1)]) (by decide) (Nat.le_of_ble_eq_true rfl) rfl ?_
  intro p e s m below meth c A ls X hr hlocks hnm hE hA hP hD hS hl
  have hx := X.1
  have hb := X.2.1
  refine lv_aload_n hx hb dX1_init_0 rfl (lv_at hl 0 rfl) ?_
  refine k_obj X w_17 w_2 w_3 hl.1 (Nat.le_of_ble_eq_true rfl) (Nat.le_of_ble_eq_true rfl) dX1_init_1 ?_
  refine lv_aload_n hx hb dX1_init_4 rfl (lv_at hl 0 rfl) ?_
  refine lv_bipush (v := 64) hx hb dX1_init_5 (by decide) ?_
  refine k_newa X w_4 hE hP hD hS hA 64 rfl (by decide) (by decide) (by decide) dX1_init_7 (fun qa_1 H hP hD hS => ?_)
  have hP : va_P D classes [(h0, .inr (1, [.null, .null, .null, .null, .null])), (qa_1, .inl (cA, 64, .inl (fun _ => 0)))] H := hP
  have hD : va_D A [(h0, .inr (1, [.null, .null, .null, .null, .null])), (qa_1, .inl (cA, 64, .inl (fun _ => 0)))] := hD
  refine k_putF (C := RX1) (T := TX1) (N := 5) (ci := 1) (v := .ref qa_1) (ty := (.array .int)) X hE hP hD hS 0 rfl rfl iX1 tyX1 tyX1_ok nmX1 1 (by decide) w_18 rfl hnm rfl (by decide +kernel) rfl rfl (Nat.le_of_ble_eq_true rfl) [(h0, .inr (1, [.null, .ref qa_1, .null, .null, .null])), (qa_1, .inl (cA, 64, .inl (fun _ => 0)))] rfl dX1_init_9 (fun H locs hP hD hS => ?_)
  refine lv_aload_n hx hb dX1_init_12 rfl (lv_at hl 0 rfl) ?_
  refine lv_bipush (v := 16) hx hb dX1_init_13 (by decide) ?_
  refine k_newa X w_4 hE hP hD hS hA 16 rfl (by decide) (by decide) (by decide) dX1_init_15 (fun qa_2 H hP hD hS => ?_)
  have hP : va_P D classes [(h0, .inr (1, [.null, .ref qa_1, .null, .null, .null])), (qa_1, .inl (cA, 64, .inl (fun _ => 0))), (qa_2, .inl (cA, 16, .inl (fun _ => 0)))] H := hP
  have hD : va_D A [(h0, .inr (1, [.null, .ref qa_1, .null, .null, .null])), (qa_1, .inl (cA, 64, .inl (fun _ => 0))), (qa_2, .inl (cA, 16, .inl (fun _ => 0)))] := hD
  refine k_putF (C := RX1) (T := TX1) (N := 5) (ci := 1) (v := .ref qa_2) (ty := (.array .int)) X hE hP hD hS 0 rfl rfl iX1 tyX1 tyX1_ok nmX1 2 (by decide) w_19 rfl hnm rfl (by decide +kernel) rfl rfl (Nat.le_of_ble_eq_true rfl) [(h0, .inr (1, [.null, .ref qa_1, .ref qa_2, .null, .null])), (qa_1, .inl (cA, 64, .inl (fun _ => 0))), (qa_2, .inl (cA, 16, .inl (fun _ => 0)))] rfl dX1_init_17 (fun H locs hP hD hS => ?_)
  refine lv_aload_n hx hb dX1_init_20 rfl (lv_at hl 0 rfl) ?_
  refine lv_sipush (v := 900) hx hb dX1_init_21 (by decide) ?_
  refine k_newa X w_4 hE hP hD hS hA 900 rfl (by decide) (by decide) (by decide) dX1_init_24 (fun qa_3 H hP hD hS => ?_)
  have hP : va_P D classes [(h0, .inr (1, [.null, .ref qa_1, .ref qa_2, .null, .null])), (qa_1, .inl (cA, 64, .inl (fun _ => 0))), (qa_2, .inl (cA, 16, .inl (fun _ => 0))), (qa_3, .inl (cA, 900, .inl (fun _ => 0)))] H := hP
  have hD : va_D A [(h0, .inr (1, [.null, .ref qa_1, .ref qa_2, .null, .null])), (qa_1, .inl (cA, 64, .inl (fun _ => 0))), (qa_2, .inl (cA, 16, .inl (fun _ => 0))), (qa_3, .inl (cA, 900, .inl (fun _ => 0)))] := hD
  refine k_putF (C := RX1) (T := TX1) (N := 5) (ci := 1) (v := .ref qa_3) (ty := (.array .int)) X hE hP hD hS 0 rfl rfl iX1 tyX1 tyX1_ok nmX1 3 (by decide) w_20 rfl hnm rfl (by decide +kernel) rfl rfl (Nat.le_of_ble_eq_true rfl) [(h0, .inr (1, [.null, .ref qa_1, .ref qa_2, .ref qa_3, .null])), (qa_1, .inl (cA, 64, .inl (fun _ => 0))), (qa_2, .inl (cA, 16, .inl (fun _ => 0))), (qa_3, .inl (cA, 900, .inl (fun _ => 0)))] rfl dX1_init_26 (fun H locs hP hD hS => ?_)
  refine lv_aload_n hx hb dX1_init_29 rfl (lv_at hl 0 rfl) ?_
  refine lv_sipush (v := 200) hx hb dX1_init_30 (by decide) ?_
  refine k_newa X w_4 hE hP hD hS hA 200 rfl (by decide) (by decide) (by decide) dX1_init_33 (fun qa_4 H hP hD hS => ?_)
  have hP : va_P D classes [(h0, .inr (1, [.null, .ref qa_1, .ref qa_2, .ref qa_3, .null])), (qa_1, .inl (cA, 64, .inl (fun _ => 0))), (qa_2, .inl (cA, 16, .inl (fun _ => 0))), (qa_3, .inl (cA, 900, .inl (fun _ => 0))), (qa_4, .inl (cA, 200, .inl (fun _ => 0)))] H := hP
  have hD : va_D A [(h0, .inr (1, [.null, .ref qa_1, .ref qa_2, .ref qa_3, .null])), (qa_1, .inl (cA, 64, .inl (fun _ => 0))), (qa_2, .inl (cA, 16, .inl (fun _ => 0))), (qa_3, .inl (cA, 900, .inl (fun _ => 0))), (qa_4, .inl (cA, 200, .inl (fun _ => 0)))] := hD
  refine k_putF (C := RX1) (T := TX1) (N := 5) (ci := 1) (v := .ref qa_4) (ty := (.array .int)) X hE hP hD hS 0 rfl rfl iX1 tyX1 tyX1_ok nmX1 4 (by decide) w_21 rfl hnm rfl (by decide +kernel) rfl rfl (Nat.le_of_ble_eq_true rfl) [(h0, .inr (1, [.null, .ref qa_1, .ref qa_2, .ref qa_3, .ref qa_4])), (qa_1, .inl (cA, 64, .inl (fun _ => 0))), (qa_2, .inl (cA, 16, .inl (fun _ => 0))), (qa_3, .inl (cA, 900, .inl (fun _ => 0))), (qa_4, .inl (cA, 200, .inl (fun _ => 0)))] rfl dX1_init_35 (fun H locs hP hD hS => ?_)
  refine lv_aload_n hx hb dX1_init_38 rfl (lv_at hl 0 rfl) ?_
  refine lv_aload_n hx hb dX1_init_39 rfl (lv_at hl 1 rfl) ?_
  refine k_putF (C := RX1) (T := TX1) (N := 5) (ci := 1) (v := .ref h1) (ty := (.array .int)) X hE hP hD hS 0 rfl rfl iX1 tyX1 tyX1_ok nmX1 0 (by decide) w_22 rfl hnm rfl (by decide +kernel) rfl rfl (Nat.le_of_ble_eq_true rfl) [(h0, .inr (1, [.ref h1, .ref qa_1, .ref qa_2, .ref qa_3, .ref qa_4])), (qa_1, .inl (cA, 64, .inl (fun _ => 0))), (qa_2, .inl (cA, 16, .inl (fun _ => 0))), (qa_3, .inl (cA, 900, .inl (fun _ => 0))), (qa_4, .inl (cA, 200, .inl (fun _ => 0)))] rfl dX1_init_40 (fun H locs hP hD hS => ?_)
  exact endV X hr hlocks hP hD hS dX1_init_43 ⟨qa_1, qa_2, qa_3, qa_4, rfl⟩
set_option maxHeartbeats 4000000 in
set_option maxRecDepth 100000 in
theorem c_Processor_init (l : Launch) (D : va_G) (cA cB : ClassId) (h0 : Nat) (h1 : Nat) (h2 : Nat) (h3 : Nat) (h4 : Nat)  : CV l yX4_init cX4_init 5 none 1 12 1 257 D cA cB [.ref h0, .ref h1, .ref h2, .ref h3, .ref h4] [(h0, .inr (4, [.null, .null, .null, .null, .null, .int 0, .int 0]))] (fun W1 => ∃ (qc : Nat), W1 = [(h0, .inr (4, [.ref h1, .ref h2, .ref h3, .ref h4, .ref qc, .int 0, .int 0])), (qc, .inl (cA, 257, .inl (fun _ => 0)))]) := by
  refine mkV (lv0 := [(0, .ref h0), (1, .ref h1), (2, .ref h2), (3, .ref h3), (4, .ref h4)]) (by decide) (Nat.le_of_ble_eq_true rfl) rfl ?_
  intro p e s m below meth c A ls X hr hlocks hnm hE hA hP hD hS hl
  have hx := X.1
  have hb := X.2.1
  refine lv_aload_n hx hb dX4_init_0 rfl (lv_at hl 0 rfl) ?_
  refine k_obj X w_23 w_2 w_3 hl.1 (Nat.le_of_ble_eq_true rfl) (Nat.le_of_ble_eq_true rfl) dX4_init_1 ?_
  refine lv_aload_n hx hb dX4_init_4 rfl (lv_at hl 0 rfl) ?_
  refine lv_sipush (v := 257) hx hb dX4_init_5 (by decide) ?_
  refine k_newa X w_4 hE hP hD hS hA 257 rfl (by decide) (by decide) (by decide) dX4_init_8 (fun qa_1 H hP hD hS => ?_)
  have hP : va_P D classes [(h0, .inr (4, [.null, .null, .null, .null, .null, .int 0, .int 0])), (qa_1, .inl (cA, 257, .inl (fun _ => 0)))] H := hP
  have hD : va_D A [(h0, .inr (4, [.null, .null, .null, .null, .null, .int 0, .int 0])), (qa_1, .inl (cA, 257, .inl (fun _ => 0)))] := hD
  refine k_putF (C := RX4) (T := TX4) (N := 7) (ci := 4) (v := .ref qa_1) (ty := (.array .int)) X hE hP hD hS 0 rfl rfl iX4 tyX4 tyX4_ok nmX4 4 (by decide) w_24 rfl hnm rfl (by decide +kernel) rfl rfl (Nat.le_of_ble_eq_true rfl) [(h0, .inr (4, [.null, .null, .null, .null, .ref qa_1, .int 0, .int 0])), (qa_1, .inl (cA, 257, .inl (fun _ => 0)))] rfl dX4_init_10 (fun H locs hP hD hS => ?_)
  refine lv_aload_n hx hb dX4_init_13 rfl (lv_at hl 0 rfl) ?_
  refine lv_aload_n hx hb dX4_init_14 rfl (lv_at hl 1 rfl) ?_
  refine k_putF (C := RX4) (T := TX4) (N := 7) (ci := 4) (v := .ref h1) (ty := (.array .int)) X hE hP hD hS 0 rfl rfl iX4 tyX4 tyX4_ok nmX4 0 (by decide) w_25 rfl hnm rfl (by decide +kernel) rfl rfl (Nat.le_of_ble_eq_true rfl) [(h0, .inr (4, [.ref h1, .null, .null, .null, .ref qa_1, .int 0, .int 0])), (qa_1, .inl (cA, 257, .inl (fun _ => 0)))] rfl dX4_init_15 (fun H locs hP hD hS => ?_)
  refine lv_aload_n hx hb dX4_init_18 rfl (lv_at hl 0 rfl) ?_
  refine lv_aload_n hx hb dX4_init_19 rfl (lv_at hl 2 rfl) ?_
  refine k_putF (C := RX4) (T := TX4) (N := 7) (ci := 4) (v := .ref h2) (ty := (.array .int)) X hE hP hD hS 0 rfl rfl iX4 tyX4 tyX4_ok nmX4 1 (by decide) w_26 rfl hnm rfl (by decide +kernel) rfl rfl (Nat.le_of_ble_eq_true rfl) [(h0, .inr (4, [.ref h1, .ref h2, .null, .null, .ref qa_1, .int 0, .int 0])), (qa_1, .inl (cA, 257, .inl (fun _ => 0)))] rfl dX4_init_20 (fun H locs hP hD hS => ?_)
  refine lv_aload_n hx hb dX4_init_23 rfl (lv_at hl 0 rfl) ?_
  refine lv_aload_n hx hb dX4_init_24 rfl (lv_at hl 3 rfl) ?_
  refine k_putF (C := RX4) (T := TX4) (N := 7) (ci := 4) (v := .ref h3) (ty := (.object "BelfryBox$Devices")) X hE hP hD hS 0 rfl rfl iX4 tyX4 tyX4_ok nmX4 2 (by decide) w_27 rfl hnm rfl (by decide +kernel) rfl rfl (Nat.le_of_ble_eq_true rfl) [(h0, .inr (4, [.ref h1, .ref h2, .ref h3, .null, .ref qa_1, .int 0, .int 0])), (qa_1, .inl (cA, 257, .inl (fun _ => 0)))] rfl dX4_init_25 (fun H locs hP hD hS => ?_)
  refine lv_aload_n hx hb dX4_init_28 rfl (lv_at hl 0 rfl) ?_
  refine lv_aload hx hb dX4_init_29 (lv_at hl 4 rfl) ?_
  refine k_putF (C := RX4) (T := TX4) (N := 7) (ci := 4) (v := .ref h4) (ty := (.object "BelfryBox$Past")) X hE hP hD hS 0 rfl rfl iX4 tyX4 tyX4_ok nmX4 3 (by decide) w_28 rfl hnm rfl (by decide +kernel) rfl rfl (Nat.le_of_ble_eq_true rfl) [(h0, .inr (4, [.ref h1, .ref h2, .ref h3, .ref h4, .ref qa_1, .int 0, .int 0])), (qa_1, .inl (cA, 257, .inl (fun _ => 0)))] rfl dX4_init_31 (fun H locs hP hD hS => ?_)
  exact endV X hr hlocks hP hD hS dX4_init_34 ⟨qa_1, rfl⟩
set_option maxHeartbeats 4000000 in
set_option maxRecDepth 100000 in
theorem c_Assembler_init (l : Launch) (D : va_G) (cA cB : ClassId) (h0 : Nat) (h1 : Nat)  : CV l yX0_init cX0_init 2 none 2 32 11 4586 D cA cB [.ref h0, .ref h1] [(h0, .inr (0, [.null, .null, .null, .null, .int 0, .int 0, .int 0, .int 0, .int 0, .int 0, .int 0, .int 0, .int 0, .int 0, .int 0, .int 0, .int 0, .int 0]))] (fun W1 => ∃ (qi : Nat) (qt : Nat) (qs : Nat) (qta : Nat) (qtb : Nat) (qtc : Nat) (qtd : Nat) (qsa : Nat) (qsb : Nat) (qsc : Nat) (qsd : Nat), W1 = [(h0, .inr (0, [.ref h1, .ref qi, .ref qt, .ref qs, .int (-1), .int (-1), .int 0, .int 0, .int 0, .int 0, .int 0, .int 0, .int 0, .int 0, .int 0, .int 0, .int 0, .int 0])), (qi, .inl (cA, 4096, .inl (fun _ => 0))), (qt, .inr (2, [.ref qta, .ref qtb, .ref qtc, .ref qtd, .int 0])), (qta, .inl (cA, 60, .inl (fun _ => 0))), (qtb, .inl (cA, 60, .inl (fun _ => 0))), (qtc, .inl (cA, 60, .inl (fun _ => 0))), (qtd, .inl (cA, 60, .inl (fun _ => 0))), (qs, .inr (2, [.ref qsa, .ref qsb, .ref qsc, .ref qsd, .int 0])), (qsa, .inl (cA, 60, .inl (fun _ => 0))), (qsb, .inl (cA, 60, .inl (fun _ => 0))), (qsc, .inl (cA, 60, .inl (fun _ => 0))), (qsd, .inl (cA, 60, .inl (fun _ => 0)))]) := by
  refine mkV (lv0 := [(0, .ref h0), (1, .ref h1)]) (by decide) (Nat.le_of_ble_eq_true rfl) rfl ?_
  intro p e s m below meth c A ls X hr hlocks hnm hE hA hP hD hS hl
  have hx := X.1
  have hb := X.2.1
  refine lv_aload_n hx hb dX0_init_0 rfl (lv_at hl 0 rfl) ?_
  refine k_obj X w_29 w_2 w_3 hl.1 (Nat.le_of_ble_eq_true rfl) (Nat.le_of_ble_eq_true rfl) dX0_init_1 ?_
  refine lv_aload_n hx hb dX0_init_4 rfl (lv_at hl 0 rfl) ?_
  refine lv_sipush (v := 4096) hx hb dX0_init_5 (by decide) ?_
  refine k_newa X w_4 hE hP hD hS hA 4096 rfl (by decide) (by decide) (by decide) dX0_init_8 (fun qa_1 H hP hD hS => ?_)
  have hP : va_P D classes [(h0, .inr (0, [.null, .null, .null, .null, .int 0, .int 0, .int 0, .int 0, .int 0, .int 0, .int 0, .int 0, .int 0, .int 0, .int 0, .int 0, .int 0, .int 0])), (qa_1, .inl (cA, 4096, .inl (fun _ => 0)))] H := hP
  have hD : va_D A [(h0, .inr (0, [.null, .null, .null, .null, .int 0, .int 0, .int 0, .int 0, .int 0, .int 0, .int 0, .int 0, .int 0, .int 0, .int 0, .int 0, .int 0, .int 0])), (qa_1, .inl (cA, 4096, .inl (fun _ => 0)))] := hD
  refine k_putF (C := RX0) (T := TX0) (N := 18) (ci := 0) (v := .ref qa_1) (ty := (.array .int)) X hE hP hD hS 0 rfl rfl iX0 tyX0 tyX0_ok nmX0 1 (by decide) w_30 rfl hnm rfl (by decide +kernel) rfl rfl (Nat.le_of_ble_eq_true rfl) [(h0, .inr (0, [.null, .ref qa_1, .null, .null, .int 0, .int 0, .int 0, .int 0, .int 0, .int 0, .int 0, .int 0, .int 0, .int 0, .int 0, .int 0, .int 0, .int 0])), (qa_1, .inl (cA, 4096, .inl (fun _ => 0)))] rfl dX0_init_10 (fun H locs hP hD hS => ?_)
  refine lv_aload_n hx hb dX0_init_13 rfl (lv_at hl 0 rfl) ?_
  refine k_new (C := RX2) (T := TX2) (N := 5) (ci := 2) (fs := [.null, .null, .null, .null, .int 0]) X hE hP hD hS hA rfl iX2 tyX2 tyX2_ok (fun j hj => by rcases (show j = 0 ∨ j = 1 ∨ j = 2 ∨ j = 3 ∨ j = 4 by omega) with rfl | rfl | rfl | rfl | rfl <;> rfl) w_31 w_32 w_33 (by decide) (by decide) dX0_init_14 (fun qo_2 H hP hD hS => ?_)
  have hP : va_P D classes [(h0, .inr (0, [.null, .ref qa_1, .null, .null, .int 0, .int 0, .int 0, .int 0, .int 0, .int 0, .int 0, .int 0, .int 0, .int 0, .int 0, .int 0, .int 0, .int 0])), (qa_1, .inl (cA, 4096, .inl (fun _ => 0))), (qo_2, .inr (2, [.null, .null, .null, .null, .int 0]))] H := hP
  have hD : va_D A [(h0, .inr (0, [.null, .ref qa_1, .null, .null, .int 0, .int 0, .int 0, .int 0, .int 0, .int 0, .int 0, .int 0, .int 0, .int 0, .int 0, .int 0, .int 0, .int 0])), (qa_1, .inl (cA, 4096, .inl (fun _ => 0))), (qo_2, .inr (2, [.null, .null, .null, .null, .int 0]))] := hD
  refine lv_dup hx hb dX0_init_17 rfl ?_
  refine kINv (n3 := 0) (As := []) (rest := [.ref qo_2, .ref h0]) X hl.1 hE hP hD hS hA [(qo_2, .inr (2, [.null, .null, .null, .null, .int 0]))] [(h0, .inr (0, [.null, .ref qa_1, .null, .null, .int 0, .int 0, .int 0, .int 0, .int 0, .int 0, .int 0, .int 0, .int 0, .int 0, .int 0, .int 0, .int 0, .int 0])), (qa_1, .inl (cA, 4096, .inl (fun _ => 0)))] [2] [0, 1] rfl rfl rfl (by decide) (by decide) (by decide) (c_Names_init l D cA cB qo_2 ) w_34 w_33 nw_21 w_35 rfl (by decide +kernel) rfl rfl (Nat.le_of_ble_eq_true rfl) ⟨(Nat.le_of_ble_eq_true rfl), (Nat.le_of_ble_eq_true rfl)⟩ ⟨(Nat.le_of_ble_eq_true rfl), (Nat.le_of_ble_eq_true rfl)⟩ dX0_init_18 (fun W1 H locs hw hP hD hS => ?_)
  obtain ⟨qa_3, qb_4, qc_5, qd_6, rfl⟩ := hw
  have hP : va_P D classes [(h0, .inr (0, [.null, .ref qa_1, .null, .null, .int 0, .int 0, .int 0, .int 0, .int 0, .int 0, .int 0, .int 0, .int 0, .int 0, .int 0, .int 0, .int 0, .int 0])), (qa_1, .inl (cA, 4096, .inl (fun _ => 0))), (qo_2, .inr (2, [.ref qa_3, .ref qb_4, .ref qc_5, .ref qd_6, .int 0])), (qa_3, .inl (cA, 60, .inl (fun _ => 0))), (qb_4, .inl (cA, 60, .inl (fun _ => 0))), (qc_5, .inl (cA, 60, .inl (fun _ => 0))), (qd_6, .inl (cA, 60, .inl (fun _ => 0)))] H := hP
  have hD : va_D A [(h0, .inr (0, [.null, .ref qa_1, .null, .null, .int 0, .int 0, .int 0, .int 0, .int 0, .int 0, .int 0, .int 0, .int 0, .int 0, .int 0, .int 0, .int 0, .int 0])), (qa_1, .inl (cA, 4096, .inl (fun _ => 0))), (qo_2, .inr (2, [.ref qa_3, .ref qb_4, .ref qc_5, .ref qd_6, .int 0])), (qa_3, .inl (cA, 60, .inl (fun _ => 0))), (qb_4, .inl (cA, 60, .inl (fun _ => 0))), (qc_5, .inl (cA, 60, .inl (fun _ => 0))), (qd_6, .inl (cA, 60, .inl (fun _ => 0)))] := hD
  refine k_put (C := RX0) (T := TX0) (N := 18) (ci := 0) (v := .ref qo_2) (ty := (.object "BelfryBox$Names")) X hE hP hD hS 0 rfl rfl iX0 tyX0 tyX0_ok nmX0 2 (by decide) w_36 rfl (by decide +kernel) rfl rfl (Nat.le_of_ble_eq_true rfl) [(h0, .inr (0, [.null, .ref qa_1, .ref qo_2, .null, .int 0, .int 0, .int 0, .int 0, .int 0, .int 0, .int 0, .int 0, .int 0, .int 0, .int 0, .int 0, .int 0, .int 0])), (qa_1, .inl (cA, 4096, .inl (fun _ => 0))), (qo_2, .inr (2, [.ref qa_3, .ref qb_4, .ref qc_5, .ref qd_6, .int 0])), (qa_3, .inl (cA, 60, .inl (fun _ => 0))), (qb_4, .inl (cA, 60, .inl (fun _ => 0))), (qc_5, .inl (cA, 60, .inl (fun _ => 0))), (qd_6, .inl (cA, 60, .inl (fun _ => 0)))] rfl dX0_init_21 (fun H locs hP hD hS => ?_)
  refine lv_aload_n hx hb dX0_init_24 rfl (lv_at hl 0 rfl) ?_
  refine k_new (C := RX2) (T := TX2) (N := 5) (ci := 2) (fs := [.null, .null, .null, .null, .int 0]) X hE hP hD hS hA rfl iX2 tyX2 tyX2_ok (fun j hj => by rcases (show j = 0 ∨ j = 1 ∨ j = 2 ∨ j = 3 ∨ j = 4 by omega) with rfl | rfl | rfl | rfl | rfl <;> rfl) w_31 w_32 w_33 (by decide) (by decide) dX0_init_25 (fun qo_7 H hP hD hS => ?_)
  have hP : va_P D classes [(h0, .inr (0, [.null, .ref qa_1, .ref qo_2, .null, .int 0, .int 0, .int 0, .int 0, .int 0, .int 0, .int 0, .int 0, .int 0, .int 0, .int 0, .int 0, .int 0, .int 0])), (qa_1, .inl (cA, 4096, .inl (fun _ => 0))), (qo_2, .inr (2, [.ref qa_3, .ref qb_4, .ref qc_5, .ref qd_6, .int 0])), (qa_3, .inl (cA, 60, .inl (fun _ => 0))), (qb_4, .inl (cA, 60, .inl (fun _ => 0))), (qc_5, .inl (cA, 60, .inl (fun _ => 0))), (qd_6, .inl (cA, 60, .inl (fun _ => 0))), (qo_7, .inr (2, [.null, .null, .null, .null, .int 0]))] H := hP
  have hD : va_D A [(h0, .inr (0, [.null, .ref qa_1, .ref qo_2, .null, .int 0, .int 0, .int 0, .int 0, .int 0, .int 0, .int 0, .int 0, .int 0, .int 0, .int 0, .int 0, .int 0, .int 0])), (qa_1, .inl (cA, 4096, .inl (fun _ => 0))), (qo_2, .inr (2, [.ref qa_3, .ref qb_4, .ref qc_5, .ref qd_6, .int 0])), (qa_3, .inl (cA, 60, .inl (fun _ => 0))), (qb_4, .inl (cA, 60, .inl (fun _ => 0))), (qc_5, .inl (cA, 60, .inl (fun _ => 0))), (qd_6, .inl (cA, 60, .inl (fun _ => 0))), (qo_7, .inr (2, [.null, .null, .null, .null, .int 0]))] := hD
  refine lv_dup hx hb dX0_init_28 rfl ?_
  refine kINv (n3 := 0) (As := []) (rest := [.ref qo_7, .ref h0]) X hl.1 hE hP hD hS hA [(qo_7, .inr (2, [.null, .null, .null, .null, .int 0]))] [(h0, .inr (0, [.null, .ref qa_1, .ref qo_2, .null, .int 0, .int 0, .int 0, .int 0, .int 0, .int 0, .int 0, .int 0, .int 0, .int 0, .int 0, .int 0, .int 0, .int 0])), (qa_1, .inl (cA, 4096, .inl (fun _ => 0))), (qo_2, .inr (2, [.ref qa_3, .ref qb_4, .ref qc_5, .ref qd_6, .int 0])), (qa_3, .inl (cA, 60, .inl (fun _ => 0))), (qb_4, .inl (cA, 60, .inl (fun _ => 0))), (qc_5, .inl (cA, 60, .inl (fun _ => 0))), (qd_6, .inl (cA, 60, .inl (fun _ => 0)))] [7] [0, 1, 2, 3, 4, 5, 6] rfl rfl rfl (by decide) (by decide) (by decide) (c_Names_init l D cA cB qo_7 ) w_34 w_33 nw_21 w_35 rfl (by decide +kernel) rfl rfl (Nat.le_of_ble_eq_true rfl) ⟨(Nat.le_of_ble_eq_true rfl), (Nat.le_of_ble_eq_true rfl)⟩ ⟨(Nat.le_of_ble_eq_true rfl), (Nat.le_of_ble_eq_true rfl)⟩ dX0_init_29 (fun W1 H locs hw hP hD hS => ?_)
  obtain ⟨qa_8, qb_9, qc_10, qd_11, rfl⟩ := hw
  have hP : va_P D classes [(h0, .inr (0, [.null, .ref qa_1, .ref qo_2, .null, .int 0, .int 0, .int 0, .int 0, .int 0, .int 0, .int 0, .int 0, .int 0, .int 0, .int 0, .int 0, .int 0, .int 0])), (qa_1, .inl (cA, 4096, .inl (fun _ => 0))), (qo_2, .inr (2, [.ref qa_3, .ref qb_4, .ref qc_5, .ref qd_6, .int 0])), (qa_3, .inl (cA, 60, .inl (fun _ => 0))), (qb_4, .inl (cA, 60, .inl (fun _ => 0))), (qc_5, .inl (cA, 60, .inl (fun _ => 0))), (qd_6, .inl (cA, 60, .inl (fun _ => 0))), (qo_7, .inr (2, [.ref qa_8, .ref qb_9, .ref qc_10, .ref qd_11, .int 0])), (qa_8, .inl (cA, 60, .inl (fun _ => 0))), (qb_9, .inl (cA, 60, .inl (fun _ => 0))), (qc_10, .inl (cA, 60, .inl (fun _ => 0))), (qd_11, .inl (cA, 60, .inl (fun _ => 0)))] H := hP
  have hD : va_D A [(h0, .inr (0, [.null, .ref qa_1, .ref qo_2, .null, .int 0, .int 0, .int 0, .int 0, .int 0, .int 0, .int 0, .int 0, .int 0, .int 0, .int 0, .int 0, .int 0, .int 0])), (qa_1, .inl (cA, 4096, .inl (fun _ => 0))), (qo_2, .inr (2, [.ref qa_3, .ref qb_4, .ref qc_5, .ref qd_6, .int 0])), (qa_3, .inl (cA, 60, .inl (fun _ => 0))), (qb_4, .inl (cA, 60, .inl (fun _ => 0))), (qc_5, .inl (cA, 60, .inl (fun _ => 0))), (qd_6, .inl (cA, 60, .inl (fun _ => 0))), (qo_7, .inr (2, [.ref qa_8, .ref qb_9, .ref qc_10, .ref qd_11, .int 0])), (qa_8, .inl (cA, 60, .inl (fun _ => 0))), (qb_9, .inl (cA, 60, .inl (fun _ => 0))), (qc_10, .inl (cA, 60, .inl (fun _ => 0))), (qd_11, .inl (cA, 60, .inl (fun _ => 0)))] := hD
  refine k_put (C := RX0) (T := TX0) (N := 18) (ci := 0) (v := .ref qo_7) (ty := (.object "BelfryBox$Names")) X hE hP hD hS 0 rfl rfl iX0 tyX0 tyX0_ok nmX0 3 (by decide) w_37 rfl (by decide +kernel) rfl rfl (Nat.le_of_ble_eq_true rfl) [(h0, .inr (0, [.null, .ref qa_1, .ref qo_2, .ref qo_7, .int 0, .int 0, .int 0, .int 0, .int 0, .int 0, .int 0, .int 0, .int 0, .int 0, .int 0, .int 0, .int 0, .int 0])), (qa_1, .inl (cA, 4096, .inl (fun _ => 0))), (qo_2, .inr (2, [.ref qa_3, .ref qb_4, .ref qc_5, .ref qd_6, .int 0])), (qa_3, .inl (cA, 60, .inl (fun _ => 0))), (qb_4, .inl (cA, 60, .inl (fun _ => 0))), (qc_5, .inl (cA, 60, .inl (fun _ => 0))), (qd_6, .inl (cA, 60, .inl (fun _ => 0))), (qo_7, .inr (2, [.ref qa_8, .ref qb_9, .ref qc_10, .ref qd_11, .int 0])), (qa_8, .inl (cA, 60, .inl (fun _ => 0))), (qb_9, .inl (cA, 60, .inl (fun _ => 0))), (qc_10, .inl (cA, 60, .inl (fun _ => 0))), (qd_11, .inl (cA, 60, .inl (fun _ => 0)))] rfl dX0_init_32 (fun H locs hP hD hS => ?_)
  refine lv_aload_n hx hb dX0_init_35 rfl (lv_at hl 0 rfl) ?_
  refine lv_iconst (v := (-1)) hx hb dX0_init_36 (by decide) ?_
  refine k_put (C := RX0) (T := TX0) (N := 18) (ci := 0) (v := .int (-1)) (ty := .int) X hE hP hD hS 0 rfl rfl iX0 tyX0 tyX0_ok nmX0 4 (by decide) w_38 rfl (by decide +kernel) rfl rfl (Nat.le_of_ble_eq_true rfl) [(h0, .inr (0, [.null, .ref qa_1, .ref qo_2, .ref qo_7, .int (-1), .int 0, .int 0, .int 0, .int 0, .int 0, .int 0, .int 0, .int 0, .int 0, .int 0, .int 0, .int 0, .int 0])), (qa_1, .inl (cA, 4096, .inl (fun _ => 0))), (qo_2, .inr (2, [.ref qa_3, .ref qb_4, .ref qc_5, .ref qd_6, .int 0])), (qa_3, .inl (cA, 60, .inl (fun _ => 0))), (qb_4, .inl (cA, 60, .inl (fun _ => 0))), (qc_5, .inl (cA, 60, .inl (fun _ => 0))), (qd_6, .inl (cA, 60, .inl (fun _ => 0))), (qo_7, .inr (2, [.ref qa_8, .ref qb_9, .ref qc_10, .ref qd_11, .int 0])), (qa_8, .inl (cA, 60, .inl (fun _ => 0))), (qb_9, .inl (cA, 60, .inl (fun _ => 0))), (qc_10, .inl (cA, 60, .inl (fun _ => 0))), (qd_11, .inl (cA, 60, .inl (fun _ => 0)))] rfl dX0_init_37 (fun H locs hP hD hS => ?_)
  refine lv_aload_n hx hb dX0_init_40 rfl (lv_at hl 0 rfl) ?_
  refine lv_iconst (v := (-1)) hx hb dX0_init_41 (by decide) ?_
  refine k_put (C := RX0) (T := TX0) (N := 18) (ci := 0) (v := .int (-1)) (ty := .int) X hE hP hD hS 0 rfl rfl iX0 tyX0 tyX0_ok nmX0 5 (by decide) w_39 rfl (by decide +kernel) rfl rfl (Nat.le_of_ble_eq_true rfl) [(h0, .inr (0, [.null, .ref qa_1, .ref qo_2, .ref qo_7, .int (-1), .int (-1), .int 0, .int 0, .int 0, .int 0, .int 0, .int 0, .int 0, .int 0, .int 0, .int 0, .int 0, .int 0])), (qa_1, .inl (cA, 4096, .inl (fun _ => 0))), (qo_2, .inr (2, [.ref qa_3, .ref qb_4, .ref qc_5, .ref qd_6, .int 0])), (qa_3, .inl (cA, 60, .inl (fun _ => 0))), (qb_4, .inl (cA, 60, .inl (fun _ => 0))), (qc_5, .inl (cA, 60, .inl (fun _ => 0))), (qd_6, .inl (cA, 60, .inl (fun _ => 0))), (qo_7, .inr (2, [.ref qa_8, .ref qb_9, .ref qc_10, .ref qd_11, .int 0])), (qa_8, .inl (cA, 60, .inl (fun _ => 0))), (qb_9, .inl (cA, 60, .inl (fun _ => 0))), (qc_10, .inl (cA, 60, .inl (fun _ => 0))), (qd_11, .inl (cA, 60, .inl (fun _ => 0)))] rfl dX0_init_42 (fun H locs hP hD hS => ?_)
  refine lv_aload_n hx hb dX0_init_45 rfl (lv_at hl 0 rfl) ?_
  refine lv_aload_n hx hb dX0_init_46 rfl (lv_at hl 1 rfl) ?_
  refine k_putF (C := RX0) (T := TX0) (N := 18) (ci := 0) (v := .ref h1) (ty := (.object "BelfryBox$Tape")) X hE hP hD hS 0 rfl rfl iX0 tyX0 tyX0_ok nmX0 0 (by decide) w_40 rfl hnm rfl (by decide +kernel) rfl rfl (Nat.le_of_ble_eq_true rfl) [(h0, .inr (0, [.ref h1, .ref qa_1, .ref qo_2, .ref qo_7, .int (-1), .int (-1), .int 0, .int 0, .int 0, .int 0, .int 0, .int 0, .int 0, .int 0, .int 0, .int 0, .int 0, .int 0])), (qa_1, .inl (cA, 4096, .inl (fun _ => 0))), (qo_2, .inr (2, [.ref qa_3, .ref qb_4, .ref qc_5, .ref qd_6, .int 0])), (qa_3, .inl (cA, 60, .inl (fun _ => 0))), (qb_4, .inl (cA, 60, .inl (fun _ => 0))), (qc_5, .inl (cA, 60, .inl (fun _ => 0))), (qd_6, .inl (cA, 60, .inl (fun _ => 0))), (qo_7, .inr (2, [.ref qa_8, .ref qb_9, .ref qc_10, .ref qd_11, .int 0])), (qa_8, .inl (cA, 60, .inl (fun _ => 0))), (qb_9, .inl (cA, 60, .inl (fun _ => 0))), (qc_10, .inl (cA, 60, .inl (fun _ => 0))), (qd_11, .inl (cA, 60, .inl (fun _ => 0)))] rfl dX0_init_47 (fun H locs hP hD hS => ?_)
  exact endV X hr hlocks hP hD hS dX0_init_50 ⟨qa_1, qo_2, qo_7, qa_3, qb_4, qc_5, qd_6, qa_8, qb_9, qc_10, qd_11, rfl⟩
end
section
def RJ7 : String := "java/util/Arrays"
abbrev cJ7_fill_53178 : ByteArray := prog_18_method_103_code
def yJ7_fill_53178 : MethodName := ⟨RJ7, "fill", "([II)V"⟩
abbrev cX3_forget : ByteArray := prog_5_method_2_code
def yX3_forget : MethodName := ⟨RX3, "forget", "()V"⟩
abbrev cX4_byteAt : ByteArray := prog_6_method_12_code
def yX4_byteAt : MethodName := ⟨RX4, "byteAt", "(I)I"⟩
abbrev cX4_placeAt : ByteArray := prog_6_method_17_code
def yX4_placeAt : MethodName := ⟨RX4, "placeAt", "(I)I"⟩
abbrev cX4_start : ByteArray := prog_6_method_3_code
def yX4_start : MethodName := ⟨RX4, "start", "()V"⟩
abbrev cX4_beginAnew : ByteArray := prog_6_method_2_code
def yX4_beginAnew : MethodName := ⟨RX4, "beginAnew", "()V"⟩
set_option maxRecDepth 100000 in
theorem w_41 : (Cond.fieldLink "BelfryBox$Past" 15 "BelfryBox$Past" "kept" "I" : Cond) ∈ gw := List.mem_filter.mpr ⟨List.mem_append_right _ (tb1 (List.mem_of_getElem? (i := 61) rfl)), rfl⟩
set_option maxRecDepth 100000 in
theorem w_42 : (Cond.methodLink "BelfryBox$Processor" 66 yX4_byteAt : Cond) ∈ gw := List.mem_filter.mpr ⟨List.mem_append_right _ (tb2 (List.mem_of_getElem? (i := 38) rfl)), rfl⟩
set_option maxRecDepth 100000 in
theorem w_43 : (Cond.code yX4_byteAt prog_6_method_12_code 2 (Option.some Jvm.ClassFile.FieldType.int) : Cond) ∈ gw := List.mem_filter.mpr ⟨List.mem_append_right _ (tb2 (List.mem_of_getElem? (i := 41) rfl)), rfl⟩
set_option maxRecDepth 100000 in
theorem w_44 : (Cond.initialized "BelfryBox$Processor" : Cond) ∈ gw := List.mem_filter.mpr ⟨List.mem_append_right _ (tb1 (List.mem_of_getElem? (i := 4) rfl)), rfl⟩
set_option maxRecDepth 100000 in
theorem w_45 : (Cond.instanceMethod yX4_byteAt : Cond) ∈ gw := List.mem_filter.mpr ⟨List.mem_append_right _ (tb2 (List.mem_of_getElem? (i := 40) rfl)), rfl⟩
set_option maxRecDepth 100000 in
theorem w_46 : (Cond.selects "BelfryBox$Processor" yX4_byteAt yX4_byteAt : Cond) ∈ gw := List.mem_filter.mpr ⟨List.mem_append_left _ (List.mem_map.mpr ⟨(⟨"BelfryBox$Processor", "byteAt", "(I)I"⟩, 7), sl1 (List.mem_of_getElem? (i := 2) rfl), rfl⟩), rfl⟩
set_option maxRecDepth 100000 in
theorem w_47 : (Cond.methodLink "BelfryBox$Processor" 43 yX4_placeAt : Cond) ∈ gw := List.mem_filter.mpr ⟨List.mem_append_right _ (tb2 (List.mem_of_getElem? (i := 34) rfl)), rfl⟩
set_option maxRecDepth 100000 in
theorem w_48 : (Cond.code yX4_placeAt prog_6_method_17_code 2 (Option.some Jvm.ClassFile.FieldType.int) : Cond) ∈ gw := List.mem_filter.mpr ⟨List.mem_append_right _ (tb2 (List.mem_of_getElem? (i := 37) rfl)), rfl⟩
set_option maxRecDepth 100000 in
theorem w_49 : (Cond.instanceMethod yX4_placeAt : Cond) ∈ gw := List.mem_filter.mpr ⟨List.mem_append_right _ (tb2 (List.mem_of_getElem? (i := 36) rfl)), rfl⟩
set_option maxRecDepth 100000 in
theorem w_50 : (Cond.selects "BelfryBox$Processor" yX4_placeAt yX4_placeAt : Cond) ∈ gw := List.mem_filter.mpr ⟨List.mem_append_left _ (List.mem_map.mpr ⟨(⟨"BelfryBox$Processor", "placeAt", "(I)I"⟩, 7), sl1 (List.mem_of_getElem? (i := 1) rfl), rfl⟩), rfl⟩
set_option maxRecDepth 100000 in
theorem w_51 : (Cond.methodLink "BelfryBox$Processor" 29 yJ7_fill_53178 : Cond) ∈ gw := List.mem_filter.mpr ⟨List.mem_append_right _ (tb2 (List.mem_of_getElem? (i := 27) rfl)), rfl⟩
set_option maxRecDepth 100000 in
theorem w_52 : (Cond.code yJ7_fill_53178 prog_18_method_103_code 4 (Option.none : Option Jvm.ClassFile.FieldType) : Cond) ∈ gw := List.mem_filter.mpr ⟨List.mem_append_right _ (tb2 (List.mem_of_getElem? (i := 29) rfl)), rfl⟩
set_option maxRecDepth 100000 in
theorem w_53 : (Cond.initialized "java/util/Arrays" : Cond) ∈ gw := List.mem_filter.mpr ⟨List.mem_append_right _ (tb1 (List.mem_of_getElem? (i := 10) rfl)), rfl⟩
set_option maxRecDepth 100000 in
theorem w_54 : (Cond.static yJ7_fill_53178 : Cond) ∈ gw := List.mem_filter.mpr ⟨List.mem_append_right _ (tb2 (List.mem_of_getElem? (i := 28) rfl)), rfl⟩
set_option maxRecDepth 100000 in
theorem w_55 : (Cond.methodLink "BelfryBox$Processor" 35 yX4_start : Cond) ∈ gw := List.mem_filter.mpr ⟨List.mem_append_right _ (tb2 (List.mem_of_getElem? (i := 30) rfl)), rfl⟩
set_option maxRecDepth 100000 in
theorem w_56 : (Cond.code yX4_start prog_6_method_3_code 1 (Option.none : Option Jvm.ClassFile.FieldType) : Cond) ∈ gw := List.mem_filter.mpr ⟨List.mem_append_right _ (tb2 (List.mem_of_getElem? (i := 33) rfl)), rfl⟩
set_option maxRecDepth 100000 in
theorem w_57 : (Cond.instanceMethod yX4_start : Cond) ∈ gw := List.mem_filter.mpr ⟨List.mem_append_right _ (tb2 (List.mem_of_getElem? (i := 32) rfl)), rfl⟩
set_option maxRecDepth 100000 in
theorem w_58 : (Cond.selects "BelfryBox$Processor" yX4_start yX4_start : Cond) ∈ gw := List.mem_filter.mpr ⟨List.mem_append_left _ (List.mem_map.mpr ⟨(⟨"BelfryBox$Processor", "start", "()V"⟩, 7), sl1 (List.mem_of_getElem? (i := 0) rfl), rfl⟩), rfl⟩
set_option maxRecDepth 100000 in
theorem w_59 : (Cond.methodLink "BelfryBox$Processor" 38 yX3_forget : Cond) ∈ gw := List.mem_filter.mpr ⟨List.mem_append_right _ (tb2 (List.mem_of_getElem? (i := 42) rfl)), rfl⟩
set_option maxRecDepth 100000 in
theorem w_60 : (Cond.code yX3_forget prog_5_method_2_code 1 (Option.none : Option Jvm.ClassFile.FieldType) : Cond) ∈ gw := List.mem_filter.mpr ⟨List.mem_append_right _ (tb2 (List.mem_of_getElem? (i := 45) rfl)), rfl⟩
set_option maxRecDepth 100000 in
theorem w_61 : (Cond.initialized "BelfryBox$Past" : Cond) ∈ gw := List.mem_filter.mpr ⟨List.mem_append_right _ (tb1 (List.mem_of_getElem? (i := 3) rfl)), rfl⟩
set_option maxRecDepth 100000 in
theorem w_62 : (Cond.instanceMethod yX3_forget : Cond) ∈ gw := List.mem_filter.mpr ⟨List.mem_append_right _ (tb2 (List.mem_of_getElem? (i := 43) rfl)), rfl⟩
set_option maxRecDepth 100000 in
theorem w_63 : (Cond.selects "BelfryBox$Past" yX3_forget yX3_forget : Cond) ∈ gw := List.mem_filter.mpr ⟨List.mem_append_right _ (tb2 (List.mem_of_getElem? (i := 44) rfl)), rfl⟩
theorem dJ7_fill_53178_0 : decode cJ7_fill_53178 0 = .ok (.iconst 0, 1) := by decide +kernel
theorem dJ7_fill_53178_1 : decode cJ7_fill_53178 1 = .ok (.istore_n 2, 1) := by decide +kernel
theorem dJ7_fill_53178_2 : decode cJ7_fill_53178 2 = .ok (.aload_n 0, 1) := by decide +kernel
theorem dJ7_fill_53178_3 : decode cJ7_fill_53178 3 = .ok (.arraylength, 1) := by decide +kernel
theorem dJ7_fill_53178_4 : decode cJ7_fill_53178 4 = .ok (.istore_n 3, 1) := by decide +kernel
theorem dJ7_fill_53178_5 : decode cJ7_fill_53178 5 = .ok (.iload_n 2, 1) := by decide +kernel
theorem dJ7_fill_53178_6 : decode cJ7_fill_53178 6 = .ok (.iload_n 3, 1) := by decide +kernel
theorem dJ7_fill_53178_7 : decode cJ7_fill_53178 7 = .ok (.if_icmp .ge 13, 3) := by decide +kernel
theorem dJ7_fill_53178_20 : decode cJ7_fill_53178 20 = .ok (.return_, 1) := by decide +kernel
theorem dJ7_fill_53178_10 : decode cJ7_fill_53178 10 = .ok (.aload_n 0, 1) := by decide +kernel
theorem dJ7_fill_53178_11 : decode cJ7_fill_53178 11 = .ok (.iload_n 2, 1) := by decide +kernel
theorem dJ7_fill_53178_12 : decode cJ7_fill_53178 12 = .ok (.iload_n 1, 1) := by decide +kernel
theorem dJ7_fill_53178_13 : decode cJ7_fill_53178 13 = .ok (.iastore, 1) := by decide +kernel
theorem dJ7_fill_53178_14 : decode cJ7_fill_53178 14 = .ok (.iinc 2 1, 3) := by decide +kernel
theorem dJ7_fill_53178_17 : decode cJ7_fill_53178 17 = .ok (.goto (-12), 3) := by decide +kernel
theorem dX3_forget_0 : decode cX3_forget 0 = .ok (.aload_n 0, 1) := by decide +kernel
theorem dX3_forget_1 : decode cX3_forget 1 = .ok (.iconst 0, 1) := by decide +kernel
theorem dX3_forget_2 : decode cX3_forget 2 = .ok (.putfield 15, 3) := by decide +kernel
theorem dX3_forget_5 : decode cX3_forget 5 = .ok (.return_, 1) := by decide +kernel
theorem dX4_byteAt_0 : decode cX4_byteAt 0 = .ok (.aload_n 0, 1) := by decide +kernel
theorem dX4_byteAt_1 : decode cX4_byteAt 1 = .ok (.getfield 18, 3) := by decide +kernel
theorem dX4_byteAt_4 : decode cX4_byteAt 4 = .ok (.iload_n 1, 1) := by decide +kernel
theorem dX4_byteAt_5 : decode cX4_byteAt 5 = .ok (.sipush 4095, 3) := by decide +kernel
theorem dX4_byteAt_8 : decode cX4_byteAt 8 = .ok (.iand, 1) := by decide +kernel
theorem dX4_byteAt_9 : decode cX4_byteAt 9 = .ok (.iaload, 1) := by decide +kernel
theorem dX4_byteAt_10 : decode cX4_byteAt 10 = .ok (.ireturn, 1) := by decide +kernel
theorem dX4_placeAt_0 : decode cX4_placeAt 0 = .ok (.aload_n 0, 1) := by decide +kernel
theorem dX4_placeAt_1 : decode cX4_placeAt 1 = .ok (.iload_n 1, 1) := by decide +kernel
theorem dX4_placeAt_2 : decode cX4_placeAt 2 = .ok (.invokevirtual 66, 3) := by decide +kernel
theorem dX4_placeAt_5 : decode cX4_placeAt 5 = .ok (.sipush 256, 3) := by decide +kernel
theorem dX4_placeAt_8 : decode cX4_placeAt 8 = .ok (.aload_n 0, 1) := by decide +kernel
theorem dX4_placeAt_9 : decode cX4_placeAt 9 = .ok (.iload_n 1, 1) := by decide +kernel
theorem dX4_placeAt_10 : decode cX4_placeAt 10 = .ok (.iconst 1, 1) := by decide +kernel
theorem dX4_placeAt_11 : decode cX4_placeAt 11 = .ok (.iadd, 1) := by decide +kernel
theorem dX4_placeAt_12 : decode cX4_placeAt 12 = .ok (.invokevirtual 66, 3) := by decide +kernel
theorem dX4_placeAt_15 : decode cX4_placeAt 15 = .ok (.imul, 1) := by decide +kernel
theorem dX4_placeAt_16 : decode cX4_placeAt 16 = .ok (.iadd, 1) := by decide +kernel
theorem dX4_placeAt_17 : decode cX4_placeAt 17 = .ok (.sipush 4095, 3) := by decide +kernel
theorem dX4_placeAt_20 : decode cX4_placeAt 20 = .ok (.iand, 1) := by decide +kernel
theorem dX4_placeAt_21 : decode cX4_placeAt 21 = .ok (.ireturn, 1) := by decide +kernel
theorem dX4_start_0 : decode cX4_start 0 = .ok (.aload_n 0, 1) := by decide +kernel
theorem dX4_start_1 : decode cX4_start 1 = .ok (.getfield 15, 3) := by decide +kernel
theorem dX4_start_4 : decode cX4_start 4 = .ok (.iconst 0, 1) := by decide +kernel
theorem dX4_start_5 : decode cX4_start 5 = .ok (.iconst 0, 1) := by decide +kernel
theorem dX4_start_6 : decode cX4_start 6 = .ok (.iastore, 1) := by decide +kernel
theorem dX4_start_7 : decode cX4_start 7 = .ok (.aload_n 0, 1) := by decide +kernel
theorem dX4_start_8 : decode cX4_start 8 = .ok (.getfield 15, 3) := by decide +kernel
theorem dX4_start_11 : decode cX4_start 11 = .ok (.iconst 1, 1) := by decide +kernel
theorem dX4_start_12 : decode cX4_start 12 = .ok (.iconst 0, 1) := by decide +kernel
theorem dX4_start_13 : decode cX4_start 13 = .ok (.iastore, 1) := by decide +kernel
theorem dX4_start_14 : decode cX4_start 14 = .ok (.aload_n 0, 1) := by decide +kernel
theorem dX4_start_15 : decode cX4_start 15 = .ok (.getfield 15, 3) := by decide +kernel
theorem dX4_start_18 : decode cX4_start 18 = .ok (.iconst 2, 1) := by decide +kernel
theorem dX4_start_19 : decode cX4_start 19 = .ok (.iconst 0, 1) := by decide +kernel
theorem dX4_start_20 : decode cX4_start 20 = .ok (.iastore, 1) := by decide +kernel
theorem dX4_start_21 : decode cX4_start 21 = .ok (.aload_n 0, 1) := by decide +kernel
theorem dX4_start_22 : decode cX4_start 22 = .ok (.getfield 15, 3) := by decide +kernel
theorem dX4_start_25 : decode cX4_start 25 = .ok (.iconst 3, 1) := by decide +kernel
theorem dX4_start_26 : decode cX4_start 26 = .ok (.sipush 255, 3) := by decide +kernel
theorem dX4_start_29 : decode cX4_start 29 = .ok (.iastore, 1) := by decide +kernel
theorem dX4_start_30 : decode cX4_start 30 = .ok (.aload_n 0, 1) := by decide +kernel
theorem dX4_start_31 : decode cX4_start 31 = .ok (.getfield 15, 3) := by decide +kernel
theorem dX4_start_34 : decode cX4_start 34 = .ok (.iconst 5, 1) := by decide +kernel
theorem dX4_start_35 : decode cX4_start 35 = .ok (.iconst 4, 1) := by decide +kernel
theorem dX4_start_36 : decode cX4_start 36 = .ok (.iastore, 1) := by decide +kernel
theorem dX4_start_37 : decode cX4_start 37 = .ok (.aload_n 0, 1) := by decide +kernel
theorem dX4_start_38 : decode cX4_start 38 = .ok (.getfield 15, 3) := by decide +kernel
theorem dX4_start_41 : decode cX4_start 41 = .ok (.iconst 4, 1) := by decide +kernel
theorem dX4_start_42 : decode cX4_start 42 = .ok (.aload_n 0, 1) := by decide +kernel
theorem dX4_start_43 : decode cX4_start 43 = .ok (.sipush 4078, 3) := by decide +kernel
theorem dX4_start_46 : decode cX4_start 46 = .ok (.invokevirtual 43, 3) := by decide +kernel
theorem dX4_start_49 : decode cX4_start 49 = .ok (.iastore, 1) := by decide +kernel
theorem dX4_start_50 : decode cX4_start 50 = .ok (.aload_n 0, 1) := by decide +kernel
theorem dX4_start_51 : decode cX4_start 51 = .ok (.getfield 15, 3) := by decide +kernel
theorem dX4_start_54 : decode cX4_start 54 = .ok (.bipush 6, 2) := by decide +kernel
theorem dX4_start_56 : decode cX4_start 56 = .ok (.iconst 0, 1) := by decide +kernel
theorem dX4_start_57 : decode cX4_start 57 = .ok (.iastore, 1) := by decide +kernel
theorem dX4_start_58 : decode cX4_start 58 = .ok (.return_, 1) := by decide +kernel
theorem dX4_beginAnew_0 : decode cX4_beginAnew 0 = .ok (.aload_n 0, 1) := by decide +kernel
theorem dX4_beginAnew_1 : decode cX4_beginAnew 1 = .ok (.getfield 15, 3) := by decide +kernel
theorem dX4_beginAnew_4 : decode cX4_beginAnew 4 = .ok (.iconst 0, 1) := by decide +kernel
theorem dX4_beginAnew_5 : decode cX4_beginAnew 5 = .ok (.invokestatic 29, 3) := by decide +kernel
theorem dX4_beginAnew_8 : decode cX4_beginAnew 8 = .ok (.aload_n 0, 1) := by decide +kernel
theorem dX4_beginAnew_9 : decode cX4_beginAnew 9 = .ok (.getfield 15, 3) := by decide +kernel
theorem dX4_beginAnew_12 : decode cX4_beginAnew 12 = .ok (.bipush 18, 2) := by decide +kernel
theorem dX4_beginAnew_14 : decode cX4_beginAnew 14 = .ok (.iconst 1, 1) := by decide +kernel
theorem dX4_beginAnew_15 : decode cX4_beginAnew 15 = .ok (.iastore, 1) := by decide +kernel
theorem dX4_beginAnew_16 : decode cX4_beginAnew 16 = .ok (.aload_n 0, 1) := by decide +kernel
theorem dX4_beginAnew_17 : decode cX4_beginAnew 17 = .ok (.invokevirtual 35, 3) := by decide +kernel
theorem dX4_beginAnew_20 : decode cX4_beginAnew 20 = .ok (.aload_n 0, 1) := by decide +kernel
theorem dX4_beginAnew_21 : decode cX4_beginAnew 21 = .ok (.getfield 9, 3) := by decide +kernel
theorem dX4_beginAnew_24 : decode cX4_beginAnew 24 = .ok (.iconst 0, 1) := by decide +kernel
theorem dX4_beginAnew_25 : decode cX4_beginAnew 25 = .ok (.invokestatic 29, 3) := by decide +kernel
theorem dX4_beginAnew_28 : decode cX4_beginAnew 28 = .ok (.aload_n 0, 1) := by decide +kernel
theorem dX4_beginAnew_29 : decode cX4_beginAnew 29 = .ok (.getfield 25, 3) := by decide +kernel
theorem dX4_beginAnew_32 : decode cX4_beginAnew 32 = .ok (.invokevirtual 38, 3) := by decide +kernel
theorem dX4_beginAnew_35 : decode cX4_beginAnew 35 = .ok (.return_, 1) := by decide +kernel
set_option maxHeartbeats 4000000 in
set_option maxRecDepth 100000 in
theorem c_fill (l : Launch) (D : va_G) (cA cB : ClassId) (h0 : Nat) (nn : Nat) (v : Int32) (f : Nat → Int32) (hn : nn < 2 ^ 31) : CV l yJ7_fill_53178 cJ7_fill_53178 4 none 0 0 0 0 D cA cB [.ref h0, .int v] [(h0, .inl (cA, nn, .inl f))] (fun W1 => ∃ (g : Nat → Int32), (∀ j, j < nn → g j = v) ∧ W1 = [(h0, .inl (cA, nn, .inl g))]) := by
  refine mkV (lv0 := [(0, .ref h0), (1, .int v)]) (by decide) (Nat.le_of_ble_eq_true rfl) rfl ?_
  intro p e s m below meth c A ls X hr hlocks hnm hE hA hP hD hS hl
  have hx := X.1
  have hb := X.2.1
  refine lv_iconst (v := 0) hx hb dJ7_fill_53178_0 (by decide) ?_
  refine lv_istore_n (lv' := [(2, .int 0), (0, .ref h0), (1, .int v)]) hx hb dJ7_fill_53178_1 rfl hl (by decide) rfl (fun ls hl => ?_)
  refine lv_aload_n hx hb dJ7_fill_53178_2 rfl (lv_at hl 1 rfl) ?_
  refine k_len (v := nI nn) X hE hP 0 rfl rfl dJ7_fill_53178_3 ?_
  refine lv_istore_n (lv' := [(3, .int (nI nn)), (2, .int 0), (0, .ref h0), (1, .int v)]) hx hb dJ7_fill_53178_4 rfl hl (by decide) rfl (fun ls hl => ?_)
  have loop_5 : ∀ (n : Nat) (k : Nat) (g : Nat → Int32), (k ≤ nn) → (∀ j, j < k → g j = v) → nn < k + n → ∀ (H : Heap) (locs : List Loc), va_P D classes [(h0, .inl (cA, nn, .inl g))] H → va_D A [(h0, .inl (cA, nn, .inl g))] → va_S A s.heap H locs → ∀ ls : Array Slot, lv_has ls 4 [(0, .ref h0), (1, .int v), (2, .int (nI k)), (3, .int (nI nn))] → W p l e { frames := 0, cells := 0, slots := 0, locals := 0 } s m (List.toArray [.ref h0, .int v]) below meth c H locs 0 0 (MQ below (QV D (fun W1 => ∃ (g : Nat → Int32), (∀ j, j < nn → g j = v) ∧ W1 = [(h0, .inl (cA, nn, .inl g))]) A) (List.toArray [.ref h0, .int v]) s 0 0 A) (F0 m 5 ls []) := by
    intro n
    induction n with
    | zero => intro k g hk hg hfuel; exact absurd hfuel (by omega)
    | succ n ih =>
      intro k g hk hg hfuel H locs hP hD hS ls hl
      refine lv_iload_n hx hb dJ7_fill_53178_5 rfl (lv_at hl 2 rfl) ?_
      refine lv_iload_n hx hb dJ7_fill_53178_6 rfl (lv_at hl 3 rfl) ?_
      refine lv_icmp_ge (tgt := 20) hx hb dJ7_fill_53178_7 (by decide) (fun c_7 => ?_) (fun c_7 => ?_)
      · skip
        exact endV X hr hlocks hP hD hS dJ7_fill_53178_20 ⟨g, (fun j hj => hg j (by have := (nI_leI hn (by omega)).mp c_7; omega)), rfl⟩
      · skip
        have hlt : k < nn := by rcases Nat.lt_or_ge k nn with q | q; exact q; exact absurd (nI_le q (by omega)) c_7
        refine lv_aload_n hx hb dJ7_fill_53178_10 rfl (lv_at hl 0 rfl) ?_
        refine lv_iload_n hx hb dJ7_fill_53178_11 rfl (lv_at hl 2 rfl) ?_
        refine lv_iload_n hx hb dJ7_fill_53178_12 rfl (lv_at hl 1 rfl) ?_
        refine k_ast X hE hP hD hS 0 rfl k rfl hlt hn [(h0, .inl (cA, nn, .inl (upd g k v)))] rfl dJ7_fill_53178_13 (fun H locs hP hD hS => ?_)
        refine lv_iinc (v := nI (k + 1)) (lv' := [(2, .int (nI (k + 1))), (0, .ref h0), (1, .int v), (3, .int (nI nn))]) hx hb dJ7_fill_53178_14 hl (k := 2) rfl (nI_1 k) (by decide) rfl (fun ls hl => ?_)
        refine lv_goto (tgt := 5) hx hb dJ7_fill_53178_17 (by decide) ?_
        exact ih (k + 1) (upd g k v) (by omega) (fun j hj => by rcases Nat.lt_or_eq_of_le (Nat.le_of_lt_succ hj) with q | q; exact (pk_un (by omega)).trans (hg j q); exact (by subst q; exact pk_us)) (by omega) _ _ (hP.sub [0] rfl) (hD.sub [0] (by decide) rfl) hS ls (lv_sub hl [1, 2, 0, 3] rfl)
  exact loop_5 (nn + 1) 0 f (Nat.zero_le _) (fun j h => absurd h (by omega)) (by omega) _ _ hP hD hS ls (lv_sub hl [2, 3, 1, 0] rfl)
set_option maxHeartbeats 4000000 in
set_option maxRecDepth 100000 in
theorem c_Past_forget (l : Launch) (D : va_G) (cA cB : ClassId) (h0 : Nat) (he : Nat) (la : Int32) (ke : Int32)  : CV l yX3_forget cX3_forget 1 none 0 0 0 0 D cA cB [.ref h0] [(h0, .inr (3, [.ref he, .int la, .int ke]))] (fun W1 => W1 = [(h0, .inr (3, [.ref he, .int la, .int 0]))]) := by
  refine mkV (lv0 := [(0, .ref h0)]) (by decide) (Nat.le_of_ble_eq_true rfl) rfl ?_
  intro p e s m below meth c A ls X hr hlocks hnm hE hA hP hD hS hl
  have hx := X.1
  have hb := X.2.1
  refine lv_aload_n hx hb dX3_forget_0 rfl (lv_at hl 0 rfl) ?_
  refine lv_iconst (v := 0) hx hb dX3_forget_1 (by decide) ?_
  refine k_put (C := RX3) (T := TX3) (N := 3) (ci := 3) (v := .int 0) (ty := .int) X hE hP hD hS 0 rfl rfl iX3 tyX3 tyX3_ok nmX3 2 (by decide) w_41 rfl (by decide +kernel) rfl rfl (Nat.le_of_ble_eq_true rfl) [(h0, .inr (3, [.ref he, .int la, .int 0]))] rfl dX3_forget_2 (fun H locs hP hD hS => ?_)
  exact endV X hr hlocks hP hD hS dX3_forget_5 rfl
set_option maxHeartbeats 4000000 in
set_option maxRecDepth 100000 in
theorem c_byteAt (l : Launch) (D : va_G) (cA cB : ClassId) (h0 : Nat) (hn : Nat) (hs : Nat) (hd : Nat) (hp : Nat) (hc : Nat) (wy : Int32) (dn : Int32) (x : Int32) (j : Nat) (st : Nat → Int32) (hj : x &&& 4095 = nI j) (hjn : j < 4096) : CI l yX4_byteAt cX4_byteAt 2 (some .int) 0 0 0 0 D cA cB [.ref h0, .int x] [(h0, .inr (4, [.ref hn, .ref hs, .ref hd, .ref hp, .ref hc, .int wy, .int dn])), (hs, .inl (cA, 4096, .inl st))] (fun r W1 => r = st j ∧ W1 = [(h0, .inr (4, [.ref hn, .ref hs, .ref hd, .ref hp, .ref hc, .int wy, .int dn])), (hs, .inl (cA, 4096, .inl st))]) := by
  refine mkI (lv0 := [(0, .ref h0), (1, .int x)]) (by decide) (Nat.le_of_ble_eq_true rfl) rfl ?_
  intro p e s m below meth c A ls X hr hlocks hnm hE hA hP hD hS hl
  have hx := X.1
  have hb := X.2.1
  refine lv_aload_n hx hb dX4_byteAt_0 rfl (lv_at hl 0 rfl) ?_
  refine k_get (C := RX4) (T := TX4) (N := 7) (ci := 4) (v := .ref hs) X hE hP 0 rfl rfl iX4 1 (by decide) w_26 rfl dX4_byteAt_1 ?_
  refine lv_iload_n hx hb dX4_byteAt_4 rfl (lv_at hl 1 rfl) ?_
  refine lv_sipush (v := 4095) hx hb dX4_byteAt_5 (by decide) ?_
  refine lv_iand hx hb dX4_byteAt_8 ?_
  refine k_ald (v := st j) X hE hP 1 rfl j hj hjn (by decide) rfl dX4_byteAt_9 ?_
  exact endI X hr hlocks hP hD hS dX4_byteAt_10 ⟨rfl, rfl⟩
set_option maxHeartbeats 4000000 in
set_option maxRecDepth 100000 in
theorem c_placeAt_4078 (l : Launch) (D : va_G) (cA cB : ClassId) (h0 : Nat) (hn : Nat) (hs : Nat) (hd : Nat) (hp : Nat) (hc : Nat) (wy : Int32) (dn : Int32) (st : Nat → Int32)  : CI l yX4_placeAt cX4_placeAt 2 (some .int) 1 21 0 0 D cA cB [.ref h0, .int 4078] [(h0, .inr (4, [.ref hn, .ref hs, .ref hd, .ref hp, .ref hc, .int wy, .int dn])), (hs, .inl (cA, 4096, .inl st))] (fun r W1 => r = ((st 4078) + (256 * (st 4079))) &&& 4095 ∧ W1 = [(h0, .inr (4, [.ref hn, .ref hs, .ref hd, .ref hp, .ref hc, .int wy, .int dn])), (hs, .inl (cA, 4096, .inl st))]) := by
  refine mkI (lv0 := [(0, .ref h0), (1, .int 4078)]) (by decide) (Nat.le_of_ble_eq_true rfl) rfl ?_
  intro p e s m below meth c A ls X hr hlocks hnm hE hA hP hD hS hl
  have hx := X.1
  have hb := X.2.1
  refine lv_aload_n hx hb dX4_placeAt_0 rfl (lv_at hl 0 rfl) ?_
  refine lv_iload_n hx hb dX4_placeAt_1 rfl (lv_at hl 1 rfl) ?_
  refine kVi (n3 := 1) (As := [.int 4078]) (rest := []) X hl.1 hE hP hD hS hA [(h0, .inr (4, [.ref hn, .ref hs, .ref hd, .ref hp, .ref hc, .int wy, .int dn])), (hs, .inl (cA, 4096, .inl st))] [] [0, 1] [] rfl rfl rfl (by decide) (by decide) (by decide) (c_byteAt l D cA cB h0 hn hs hd hp hc wy dn 4078 4078 st (by first | assumption | decide | rfl | omega) (by first | assumption | decide | rfl | omega)) w_43 w_44 w_42 w_45 w_46 0 (ci := 4) (T := TX4) (N := 7) rfl rfl (by decide +kernel) rfl rfl (Nat.le_of_ble_eq_true rfl) ⟨(Nat.le_of_ble_eq_true rfl), (Nat.le_of_ble_eq_true rfl)⟩ ⟨(Nat.le_of_ble_eq_true rfl), (Nat.le_of_ble_eq_true rfl)⟩ dX4_placeAt_2 (fun r W1 H locs hw hP hD hS => ?_)
  obtain ⟨rfl, rfl⟩ := hw
  have hP : va_P D classes [(h0, .inr (4, [.ref hn, .ref hs, .ref hd, .ref hp, .ref hc, .int wy, .int dn])), (hs, .inl (cA, 4096, .inl st))] H := hP
  have hD : va_D A [(h0, .inr (4, [.ref hn, .ref hs, .ref hd, .ref hp, .ref hc, .int wy, .int dn])), (hs, .inl (cA, 4096, .inl st))] := hD
  refine lv_sipush (v := 256) hx hb dX4_placeAt_5 (by decide) ?_
  refine lv_aload_n hx hb dX4_placeAt_8 rfl (lv_at hl 0 rfl) ?_
  refine lv_iload_n hx hb dX4_placeAt_9 rfl (lv_at hl 1 rfl) ?_
  refine lv_iconst (v := 1) hx hb dX4_placeAt_10 (by decide) ?_
  refine lv_iadd hx hb dX4_placeAt_11 ?_
  refine tk (y := 4079) (by decide) ?_
  refine kVi (n3 := 1) (As := [.int 4079]) (rest := [.int 256, .int (st 4078)]) X hl.1 hE hP hD hS hA [(h0, .inr (4, [.ref hn, .ref hs, .ref hd, .ref hp, .ref hc, .int wy, .int dn])), (hs, .inl (cA, 4096, .inl st))] [] [0, 1] [] rfl rfl rfl (by decide) (by decide) (by decide) (c_byteAt l D cA cB h0 hn hs hd hp hc wy dn 4079 4079 st (by first | assumption | decide | rfl | omega) (by first | assumption | decide | rfl | omega)) w_43 w_44 w_42 w_45 w_46 0 (ci := 4) (T := TX4) (N := 7) rfl rfl (by decide +kernel) rfl rfl (Nat.le_of_ble_eq_true rfl) ⟨(Nat.le_of_ble_eq_true rfl), (Nat.le_of_ble_eq_true rfl)⟩ ⟨(Nat.le_of_ble_eq_true rfl), (Nat.le_of_ble_eq_true rfl)⟩ dX4_placeAt_12 (fun r W1 H locs hw hP hD hS => ?_)
  obtain ⟨rfl, rfl⟩ := hw
  have hP : va_P D classes [(h0, .inr (4, [.ref hn, .ref hs, .ref hd, .ref hp, .ref hc, .int wy, .int dn])), (hs, .inl (cA, 4096, .inl st))] H := hP
  have hD : va_D A [(h0, .inr (4, [.ref hn, .ref hs, .ref hd, .ref hp, .ref hc, .int wy, .int dn])), (hs, .inl (cA, 4096, .inl st))] := hD
  refine lv_imul hx hb dX4_placeAt_15 ?_
  refine lv_iadd hx hb dX4_placeAt_16 ?_
  refine lv_sipush (v := 4095) hx hb dX4_placeAt_17 (by decide) ?_
  refine lv_iand hx hb dX4_placeAt_20 ?_
  exact endI X hr hlocks hP hD hS dX4_placeAt_21 ⟨rfl, rfl⟩
set_option maxHeartbeats 4000000 in
set_option maxRecDepth 100000 in
theorem c_start (l : Launch) (D : va_G) (cA cB : ClassId) (h0 : Nat) (hn : Nat) (hs : Nat) (hd : Nat) (hp : Nat) (hc : Nat) (wy : Int32) (dn : Int32) (f : Nat → Int32) (st : Nat → Int32)  : CV l yX4_start cX4_start 1 none 2 42 0 0 D cA cB [.ref h0] [(h0, .inr (4, [.ref hn, .ref hs, .ref hd, .ref hp, .ref hc, .int wy, .int dn])), (hn, .inl (cA, 34, .inl f)), (hs, .inl (cA, 4096, .inl st))] (fun W1 => W1 = [(h0, .inr (4, [.ref hn, .ref hs, .ref hd, .ref hp, .ref hc, .int wy, .int dn])), (hn, .inl (cA, 34, .inl (upd (upd (upd (upd (upd (upd (upd f 0 0) 1 0) 2 0) 3 255) 5 4) 4 (((st 4078) + (256 * (st 4079))) &&& 4095)) 6 0))), (hs, .inl (cA, 4096, .inl st))]) := by
  refine mkV (lv0 := [(0, .ref h0)]) (by decide) (Nat.le_of_ble_eq_true rfl) rfl ?_
  intro p e s m below meth c A ls X hr hlocks hnm hE hA hP hD hS hl
  have hx := X.1
  have hb := X.2.1
  refine lv_aload_n hx hb dX4_start_0 rfl (lv_at hl 0 rfl) ?_
  refine k_get (C := RX4) (T := TX4) (N := 7) (ci := 4) (v := .ref hn) X hE hP 0 rfl rfl iX4 0 (by decide) w_25 rfl dX4_start_1 ?_
  refine lv_iconst (v := 0) hx hb dX4_start_4 (by decide) ?_
  refine lv_iconst (v := 0) hx hb dX4_start_5 (by decide) ?_
  refine k_ast X hE hP hD hS 1 rfl 0 rfl (by decide) (by decide) [(h0, .inr (4, [.ref hn, .ref hs, .ref hd, .ref hp, .ref hc, .int wy, .int dn])), (hn, .inl (cA, 34, .inl (upd f 0 0))), (hs, .inl (cA, 4096, .inl st))] rfl dX4_start_6 (fun H locs hP hD hS => ?_)
  refine lv_aload_n hx hb dX4_start_7 rfl (lv_at hl 0 rfl) ?_
  refine k_get (C := RX4) (T := TX4) (N := 7) (ci := 4) (v := .ref hn) X hE hP 0 rfl rfl iX4 0 (by decide) w_25 rfl dX4_start_8 ?_
  refine lv_iconst (v := 1) hx hb dX4_start_11 (by decide) ?_
  refine lv_iconst (v := 0) hx hb dX4_start_12 (by decide) ?_
  refine k_ast X hE hP hD hS 1 rfl 1 rfl (by decide) (by decide) [(h0, .inr (4, [.ref hn, .ref hs, .ref hd, .ref hp, .ref hc, .int wy, .int dn])), (hn, .inl (cA, 34, .inl (upd (upd f 0 0) 1 0))), (hs, .inl (cA, 4096, .inl st))] rfl dX4_start_13 (fun H locs hP hD hS => ?_)
  refine lv_aload_n hx hb dX4_start_14 rfl (lv_at hl 0 rfl) ?_
  refine k_get (C := RX4) (T := TX4) (N := 7) (ci := 4) (v := .ref hn) X hE hP 0 rfl rfl iX4 0 (by decide) w_25 rfl dX4_start_15 ?_
  refine lv_iconst (v := 2) hx hb dX4_start_18 (by decide) ?_
  refine lv_iconst (v := 0) hx hb dX4_start_19 (by decide) ?_
  refine k_ast X hE hP hD hS 1 rfl 2 rfl (by decide) (by decide) [(h0, .inr (4, [.ref hn, .ref hs, .ref hd, .ref hp, .ref hc, .int wy, .int dn])), (hn, .inl (cA, 34, .inl (upd (upd (upd f 0 0) 1 0) 2 0))), (hs, .inl (cA, 4096, .inl st))] rfl dX4_start_20 (fun H locs hP hD hS => ?_)
  refine lv_aload_n hx hb dX4_start_21 rfl (lv_at hl 0 rfl) ?_
  refine k_get (C := RX4) (T := TX4) (N := 7) (ci := 4) (v := .ref hn) X hE hP 0 rfl rfl iX4 0 (by decide) w_25 rfl dX4_start_22 ?_
  refine lv_iconst (v := 3) hx hb dX4_start_25 (by decide) ?_
  refine lv_sipush (v := 255) hx hb dX4_start_26 (by decide) ?_
  refine k_ast X hE hP hD hS 1 rfl 3 rfl (by decide) (by decide) [(h0, .inr (4, [.ref hn, .ref hs, .ref hd, .ref hp, .ref hc, .int wy, .int dn])), (hn, .inl (cA, 34, .inl (upd (upd (upd (upd f 0 0) 1 0) 2 0) 3 255))), (hs, .inl (cA, 4096, .inl st))] rfl dX4_start_29 (fun H locs hP hD hS => ?_)
  refine lv_aload_n hx hb dX4_start_30 rfl (lv_at hl 0 rfl) ?_
  refine k_get (C := RX4) (T := TX4) (N := 7) (ci := 4) (v := .ref hn) X hE hP 0 rfl rfl iX4 0 (by decide) w_25 rfl dX4_start_31 ?_
  refine lv_iconst (v := 5) hx hb dX4_start_34 (by decide) ?_
  refine lv_iconst (v := 4) hx hb dX4_start_35 (by decide) ?_
  refine k_ast X hE hP hD hS 1 rfl 5 rfl (by decide) (by decide) [(h0, .inr (4, [.ref hn, .ref hs, .ref hd, .ref hp, .ref hc, .int wy, .int dn])), (hn, .inl (cA, 34, .inl (upd (upd (upd (upd (upd f 0 0) 1 0) 2 0) 3 255) 5 4))), (hs, .inl (cA, 4096, .inl st))] rfl dX4_start_36 (fun H locs hP hD hS => ?_)
  refine lv_aload_n hx hb dX4_start_37 rfl (lv_at hl 0 rfl) ?_
  refine k_get (C := RX4) (T := TX4) (N := 7) (ci := 4) (v := .ref hn) X hE hP 0 rfl rfl iX4 0 (by decide) w_25 rfl dX4_start_38 ?_
  refine lv_iconst (v := 4) hx hb dX4_start_41 (by decide) ?_
  refine lv_aload_n hx hb dX4_start_42 rfl (lv_at hl 0 rfl) ?_
  refine lv_sipush (v := 4078) hx hb dX4_start_43 (by decide) ?_
  refine kVi (n3 := 1) (As := [.int 4078]) (rest := [.int 4, .ref hn]) X hl.1 hE hP hD hS hA [(h0, .inr (4, [.ref hn, .ref hs, .ref hd, .ref hp, .ref hc, .int wy, .int dn])), (hs, .inl (cA, 4096, .inl st))] [(hn, .inl (cA, 34, .inl (upd (upd (upd (upd (upd f 0 0) 1 0) 2 0) 3 255) 5 4)))] [0, 2] [1] rfl rfl rfl (by decide) (by decide) (by decide) (c_placeAt_4078 l D cA cB h0 hn hs hd hp hc wy dn st ) w_48 w_44 w_47 w_49 w_50 0 (ci := 4) (T := TX4) (N := 7) rfl rfl (by decide +kernel) rfl rfl (Nat.le_of_ble_eq_true rfl) ⟨(Nat.le_of_ble_eq_true rfl), (Nat.le_of_ble_eq_true rfl)⟩ ⟨(Nat.le_of_ble_eq_true rfl), (Nat.le_of_ble_eq_true rfl)⟩ dX4_start_46 (fun r W1 H locs hw hP hD hS => ?_)
  obtain ⟨rfl, rfl⟩ := hw
  have hP : va_P D classes [(hn, .inl (cA, 34, .inl (upd (upd (upd (upd (upd f 0 0) 1 0) 2 0) 3 255) 5 4))), (h0, .inr (4, [.ref hn, .ref hs, .ref hd, .ref hp, .ref hc, .int wy, .int dn])), (hs, .inl (cA, 4096, .inl st))] H := hP
  have hD : va_D A [(hn, .inl (cA, 34, .inl (upd (upd (upd (upd (upd f 0 0) 1 0) 2 0) 3 255) 5 4))), (h0, .inr (4, [.ref hn, .ref hs, .ref hd, .ref hp, .ref hc, .int wy, .int dn])), (hs, .inl (cA, 4096, .inl st))] := hD
  refine k_ast X hE hP hD hS 0 rfl 4 rfl (by decide) (by decide) [(hn, .inl (cA, 34, .inl (upd (upd (upd (upd (upd (upd f 0 0) 1 0) 2 0) 3 255) 5 4) 4 (((st 4078) + (256 * (st 4079))) &&& 4095)))), (h0, .inr (4, [.ref hn, .ref hs, .ref hd, .ref hp, .ref hc, .int wy, .int dn])), (hs, .inl (cA, 4096, .inl st))] rfl dX4_start_49 (fun H locs hP hD hS => ?_)
  refine lv_aload_n hx hb dX4_start_50 rfl (lv_at hl 0 rfl) ?_
  refine k_get (C := RX4) (T := TX4) (N := 7) (ci := 4) (v := .ref hn) X hE hP 1 rfl rfl iX4 0 (by decide) w_25 rfl dX4_start_51 ?_
  refine lv_bipush (v := 6) hx hb dX4_start_54 (by decide) ?_
  refine lv_iconst (v := 0) hx hb dX4_start_56 (by decide) ?_
  refine k_ast X hE hP hD hS 0 rfl 6 rfl (by decide) (by decide) [(hn, .inl (cA, 34, .inl (upd (upd (upd (upd (upd (upd (upd f 0 0) 1 0) 2 0) 3 255) 5 4) 4 (((st 4078) + (256 * (st 4079))) &&& 4095)) 6 0))), (h0, .inr (4, [.ref hn, .ref hs, .ref hd, .ref hp, .ref hc, .int wy, .int dn])), (hs, .inl (cA, 4096, .inl st))] rfl dX4_start_57 (fun H locs hP hD hS => ?_)
  have hP : va_P D classes [(h0, .inr (4, [.ref hn, .ref hs, .ref hd, .ref hp, .ref hc, .int wy, .int dn])), (hn, .inl (cA, 34, .inl (upd (upd (upd (upd (upd (upd (upd f 0 0) 1 0) 2 0) 3 255) 5 4) 4 (((st 4078) + (256 * (st 4079))) &&& 4095)) 6 0))), (hs, .inl (cA, 4096, .inl st))] _ := hP.sub [1, 0, 2] rfl
  have hD : va_D A [(h0, .inr (4, [.ref hn, .ref hs, .ref hd, .ref hp, .ref hc, .int wy, .int dn])), (hn, .inl (cA, 34, .inl (upd (upd (upd (upd (upd (upd (upd f 0 0) 1 0) 2 0) 3 255) 5 4) 4 (((st 4078) + (256 * (st 4079))) &&& 4095)) 6 0))), (hs, .inl (cA, 4096, .inl st))] := hD.sub [1, 0, 2] (by decide) rfl
  exact endV X hr hlocks hP hD hS dX4_start_58 rfl
set_option maxHeartbeats 4000000 in
set_option maxRecDepth 100000 in
theorem c_beginAnew (l : Launch) (D : va_G) (cA cB : ClassId) (h0 : Nat) (hn : Nat) (hs : Nat) (hd : Nat) (hp : Nat) (hc : Nat) (wy : Int32) (dn : Int32) (he : Nat) (la : Int32) (ke : Int32) (f : Nat → Int32) (st : Nat → Int32) (ct : Nat → Int32)  : CV l yX4_beginAnew cX4_beginAnew 1 none 3 62 0 0 D cA cB [.ref h0] [(h0, .inr (4, [.ref hn, .ref hs, .ref hd, .ref hp, .ref hc, .int wy, .int dn])), (hn, .inl (cA, 34, .inl f)), (hs, .inl (cA, 4096, .inl st)), (hc, .inl (cA, 257, .inl ct)), (hp, .inr (3, [.ref he, .int la, .int ke]))] (fun W1 => ∃ (g : Nat → Int32) (g2 : Nat → Int32), (∀ j, j < 34 → g j = 0) ∧ (∀ j, j < 257 → g2 j = 0) ∧ W1 = [(h0, .inr (4, [.ref hn, .ref hs, .ref hd, .ref hp, .ref hc, .int wy, .int dn])), (hn, .inl (cA, 34, .inl (upd (upd (upd (upd (upd (upd (upd (upd g 18 1) 0 0) 1 0) 2 0) 3 255) 5 4) 4 (((st 4078) + (256 * (st 4079))) &&& 4095)) 6 0))), (hs, .inl (cA, 4096, .inl st)), (hc, .inl (cA, 257, .inl g2)), (hp, .inr (3, [.ref he, .int la, .int 0]))]) := by
  refine mkV (lv0 := [(0, .ref h0)]) (by decide) (Nat.le_of_ble_eq_true rfl) rfl ?_
  intro p e s m below meth c A ls X hr hlocks hnm hE hA hP hD hS hl
  have hx := X.1
  have hb := X.2.1
  refine lv_aload_n hx hb dX4_beginAnew_0 rfl (lv_at hl 0 rfl) ?_
  refine k_get (C := RX4) (T := TX4) (N := 7) (ci := 4) (v := .ref hn) X hE hP 0 rfl rfl iX4 0 (by decide) w_25 rfl dX4_beginAnew_1 ?_
  refine lv_iconst (v := 0) hx hb dX4_beginAnew_4 (by decide) ?_
  refine kSv (n3 := 2) (As := [.ref hn, .int 0]) (rest := []) X hl.1 hE hP hD hS hA [(hn, .inl (cA, 34, .inl f))] [(h0, .inr (4, [.ref hn, .ref hs, .ref hd, .ref hp, .ref hc, .int wy, .int dn])), (hs, .inl (cA, 4096, .inl st)), (hc, .inl (cA, 257, .inl ct)), (hp, .inr (3, [.ref he, .int la, .int ke]))] [1] [0, 2, 3, 4] rfl rfl rfl (by decide) (by decide) (by decide) (c_fill l D cA cB hn 34 0 f (by first | assumption | decide | rfl | omega)) w_52 w_53 w_51 w_54 (by decide +kernel) rfl rfl (Nat.le_of_ble_eq_true rfl) ⟨(Nat.le_of_ble_eq_true rfl), (Nat.le_of_ble_eq_true rfl)⟩ ⟨(Nat.le_of_ble_eq_true rfl), (Nat.le_of_ble_eq_true rfl)⟩ dX4_beginAnew_5 (fun W1 H locs hw hP hD hS => ?_)
  obtain ⟨g_1, hf_2, rfl⟩ := hw
  have hP : va_P D classes [(h0, .inr (4, [.ref hn, .ref hs, .ref hd, .ref hp, .ref hc, .int wy, .int dn])), (hs, .inl (cA, 4096, .inl st)), (hc, .inl (cA, 257, .inl ct)), (hp, .inr (3, [.ref he, .int la, .int ke])), (hn, .inl (cA, 34, .inl g_1))] H := hP
  have hD : va_D A [(h0, .inr (4, [.ref hn, .ref hs, .ref hd, .ref hp, .ref hc, .int wy, .int dn])), (hs, .inl (cA, 4096, .inl st)), (hc, .inl (cA, 257, .inl ct)), (hp, .inr (3, [.ref he, .int la, .int ke])), (hn, .inl (cA, 34, .inl g_1))] := hD
  refine lv_aload_n hx hb dX4_beginAnew_8 rfl (lv_at hl 0 rfl) ?_
  refine k_get (C := RX4) (T := TX4) (N := 7) (ci := 4) (v := .ref hn) X hE hP 0 rfl rfl iX4 0 (by decide) w_25 rfl dX4_beginAnew_9 ?_
  refine lv_bipush (v := 18) hx hb dX4_beginAnew_12 (by decide) ?_
  refine lv_iconst (v := 1) hx hb dX4_beginAnew_14 (by decide) ?_
  refine k_ast X hE hP hD hS 4 rfl 18 rfl (by decide) (by decide) [(h0, .inr (4, [.ref hn, .ref hs, .ref hd, .ref hp, .ref hc, .int wy, .int dn])), (hs, .inl (cA, 4096, .inl st)), (hc, .inl (cA, 257, .inl ct)), (hp, .inr (3, [.ref he, .int la, .int ke])), (hn, .inl (cA, 34, .inl (upd g_1 18 1)))] rfl dX4_beginAnew_15 (fun H locs hP hD hS => ?_)
  refine lv_aload_n hx hb dX4_beginAnew_16 rfl (lv_at hl 0 rfl) ?_
  refine kVv (n3 := 0) (As := []) (rest := []) X hl.1 hE hP hD hS hA [(h0, .inr (4, [.ref hn, .ref hs, .ref hd, .ref hp, .ref hc, .int wy, .int dn])), (hn, .inl (cA, 34, .inl (upd g_1 18 1))), (hs, .inl (cA, 4096, .inl st))] [(hc, .inl (cA, 257, .inl ct)), (hp, .inr (3, [.ref he, .int la, .int ke]))] [0, 4, 1] [2, 3] rfl rfl rfl (by decide) (by decide) (by decide) (c_start l D cA cB h0 hn hs hd hp hc wy dn (upd g_1 18 1) st ) w_56 w_44 w_55 w_57 w_58 0 (ci := 4) (T := TX4) (N := 7) rfl rfl (by decide +kernel) rfl rfl (Nat.le_of_ble_eq_true rfl) ⟨(Nat.le_of_ble_eq_true rfl), (Nat.le_of_ble_eq_true rfl)⟩ ⟨(Nat.le_of_ble_eq_true rfl), (Nat.le_of_ble_eq_true rfl)⟩ dX4_beginAnew_17 (fun W1 H locs hw hP hD hS => ?_)
  obtain rfl := hw
  have hP : va_P D classes [(hc, .inl (cA, 257, .inl ct)), (hp, .inr (3, [.ref he, .int la, .int ke])), (h0, .inr (4, [.ref hn, .ref hs, .ref hd, .ref hp, .ref hc, .int wy, .int dn])), (hn, .inl (cA, 34, .inl (upd (upd (upd (upd (upd (upd (upd (upd g_1 18 1) 0 0) 1 0) 2 0) 3 255) 5 4) 4 (((st 4078) + (256 * (st 4079))) &&& 4095)) 6 0))), (hs, .inl (cA, 4096, .inl st))] H := hP
  have hD : va_D A [(hc, .inl (cA, 257, .inl ct)), (hp, .inr (3, [.ref he, .int la, .int ke])), (h0, .inr (4, [.ref hn, .ref hs, .ref hd, .ref hp, .ref hc, .int wy, .int dn])), (hn, .inl (cA, 34, .inl (upd (upd (upd (upd (upd (upd (upd (upd g_1 18 1) 0 0) 1 0) 2 0) 3 255) 5 4) 4 (((st 4078) + (256 * (st 4079))) &&& 4095)) 6 0))), (hs, .inl (cA, 4096, .inl st))] := hD
  refine lv_aload_n hx hb dX4_beginAnew_20 rfl (lv_at hl 0 rfl) ?_
  refine k_get (C := RX4) (T := TX4) (N := 7) (ci := 4) (v := .ref hc) X hE hP 2 rfl rfl iX4 4 (by decide) w_24 rfl dX4_beginAnew_21 ?_
  refine lv_iconst (v := 0) hx hb dX4_beginAnew_24 (by decide) ?_
  refine kSv (n3 := 2) (As := [.ref hc, .int 0]) (rest := []) X hl.1 hE hP hD hS hA [(hc, .inl (cA, 257, .inl ct))] [(hp, .inr (3, [.ref he, .int la, .int ke])), (h0, .inr (4, [.ref hn, .ref hs, .ref hd, .ref hp, .ref hc, .int wy, .int dn])), (hn, .inl (cA, 34, .inl (upd (upd (upd (upd (upd (upd (upd (upd g_1 18 1) 0 0) 1 0) 2 0) 3 255) 5 4) 4 (((st 4078) + (256 * (st 4079))) &&& 4095)) 6 0))), (hs, .inl (cA, 4096, .inl st))] [0] [1, 2, 3, 4] rfl rfl rfl (by decide) (by decide) (by decide) (c_fill l D cA cB hc 257 0 ct (by first | assumption | decide | rfl | omega)) w_52 w_53 w_51 w_54 (by decide +kernel) rfl rfl (Nat.le_of_ble_eq_true rfl) ⟨(Nat.le_of_ble_eq_true rfl), (Nat.le_of_ble_eq_true rfl)⟩ ⟨(Nat.le_of_ble_eq_true rfl), (Nat.le_of_ble_eq_true rfl)⟩ dX4_beginAnew_25 (fun W1 H locs hw hP hD hS => ?_)
  obtain ⟨g_3, hf_4, rfl⟩ := hw
  have hP : va_P D classes [(hp, .inr (3, [.ref he, .int la, .int ke])), (h0, .inr (4, [.ref hn, .ref hs, .ref hd, .ref hp, .ref hc, .int wy, .int dn])), (hn, .inl (cA, 34, .inl (upd (upd (upd (upd (upd (upd (upd (upd g_1 18 1) 0 0) 1 0) 2 0) 3 255) 5 4) 4 (((st 4078) + (256 * (st 4079))) &&& 4095)) 6 0))), (hs, .inl (cA, 4096, .inl st)), (hc, .inl (cA, 257, .inl g_3))] H := hP
  have hD : va_D A [(hp, .inr (3, [.ref he, .int la, .int ke])), (h0, .inr (4, [.ref hn, .ref hs, .ref hd, .ref hp, .ref hc, .int wy, .int dn])), (hn, .inl (cA, 34, .inl (upd (upd (upd (upd (upd (upd (upd (upd g_1 18 1) 0 0) 1 0) 2 0) 3 255) 5 4) 4 (((st 4078) + (256 * (st 4079))) &&& 4095)) 6 0))), (hs, .inl (cA, 4096, .inl st)), (hc, .inl (cA, 257, .inl g_3))] := hD
  refine lv_aload_n hx hb dX4_beginAnew_28 rfl (lv_at hl 0 rfl) ?_
  refine k_get (C := RX4) (T := TX4) (N := 7) (ci := 4) (v := .ref hp) X hE hP 1 rfl rfl iX4 3 (by decide) w_28 rfl dX4_beginAnew_29 ?_
  refine kVv (n3 := 0) (As := []) (rest := []) X hl.1 hE hP hD hS hA [(hp, .inr (3, [.ref he, .int la, .int ke]))] [(h0, .inr (4, [.ref hn, .ref hs, .ref hd, .ref hp, .ref hc, .int wy, .int dn])), (hn, .inl (cA, 34, .inl (upd (upd (upd (upd (upd (upd (upd (upd g_1 18 1) 0 0) 1 0) 2 0) 3 255) 5 4) 4 (((st 4078) + (256 * (st 4079))) &&& 4095)) 6 0))), (hs, .inl (cA, 4096, .inl st)), (hc, .inl (cA, 257, .inl g_3))] [0] [1, 2, 3, 4] rfl rfl rfl (by decide) (by decide) (by decide) (c_Past_forget l D cA cB hp he la ke ) w_60 w_61 w_59 w_62 w_63 0 (ci := 3) (T := TX3) (N := 3) rfl rfl (by decide +kernel) rfl rfl (Nat.le_of_ble_eq_true rfl) ⟨(Nat.le_of_ble_eq_true rfl), (Nat.le_of_ble_eq_true rfl)⟩ ⟨(Nat.le_of_ble_eq_true rfl), (Nat.le_of_ble_eq_true rfl)⟩ dX4_beginAnew_32 (fun W1 H locs hw hP hD hS => ?_)
  obtain rfl := hw
  have hP : va_P D classes [(h0, .inr (4, [.ref hn, .ref hs, .ref hd, .ref hp, .ref hc, .int wy, .int dn])), (hn, .inl (cA, 34, .inl (upd (upd (upd (upd (upd (upd (upd (upd g_1 18 1) 0 0) 1 0) 2 0) 3 255) 5 4) 4 (((st 4078) + (256 * (st 4079))) &&& 4095)) 6 0))), (hs, .inl (cA, 4096, .inl st)), (hc, .inl (cA, 257, .inl g_3)), (hp, .inr (3, [.ref he, .int la, .int 0]))] H := hP
  have hD : va_D A [(h0, .inr (4, [.ref hn, .ref hs, .ref hd, .ref hp, .ref hc, .int wy, .int dn])), (hn, .inl (cA, 34, .inl (upd (upd (upd (upd (upd (upd (upd (upd g_1 18 1) 0 0) 1 0) 2 0) 3 255) 5 4) 4 (((st 4078) + (256 * (st 4079))) &&& 4095)) 6 0))), (hs, .inl (cA, 4096, .inl st)), (hc, .inl (cA, 257, .inl g_3)), (hp, .inr (3, [.ref he, .int la, .int 0]))] := hD
  exact endV X hr hlocks hP hD hS dX4_beginAnew_35 ⟨g_1, g_3, hf_2, hf_4, rfl⟩
end
section
abbrev cX8_init : ByteArray := prog_1_method_1_code
def yX8_init : MethodName := ⟨RX8, "<init>", "()V"⟩
set_option maxRecDepth 100000 in
theorem w_64 : (Cond.methodLink "BelfryBox" 1 ⟨"java/lang/Object", "<init>", "()V"⟩ : Cond) ∈ gw := List.mem_filter.mpr ⟨List.mem_append_right _ (tb1 (List.mem_of_getElem? (i := 24) rfl)), rfl⟩
set_option maxRecDepth 100000 in
theorem w_65 : (Cond.fieldLink "BelfryBox" 9 "BelfryBox" "now" "[I" : Cond) ∈ gw := List.mem_filter.mpr ⟨List.mem_append_right _ (tb2 (List.mem_of_getElem? (i := 46) rfl)), rfl⟩
set_option maxRecDepth 100000 in
theorem w_66 : (Cond.fieldLink "BelfryBox" 13 "BelfryBox" "store" "[I" : Cond) ∈ gw := List.mem_filter.mpr ⟨List.mem_append_right _ (tb2 (List.mem_of_getElem? (i := 47) rfl)), rfl⟩
set_option maxRecDepth 100000 in
theorem w_67 : (Cond.classLink "BelfryBox" 16 "BelfryBox$Devices" : Cond) ∈ gw := List.mem_filter.mpr ⟨List.mem_append_right _ (tb1 (List.mem_of_getElem? (i := 27) rfl)), rfl⟩
set_option maxRecDepth 100000 in
theorem w_68 : (Cond.instantiable "BelfryBox$Devices" 5 : Cond) ∈ gw := List.mem_filter.mpr ⟨List.mem_append_right _ (tb1 (List.mem_of_getElem? (i := 28) rfl)), rfl⟩
set_option maxRecDepth 100000 in
theorem w_69 : (Cond.initialized "BelfryBox$Devices" : Cond) ∈ gw := List.mem_filter.mpr ⟨List.mem_append_right _ (tb1 (List.mem_of_getElem? (i := 2) rfl)), rfl⟩
set_option maxRecDepth 100000 in
theorem w_70 : (Cond.methodLink "BelfryBox" 18 yX1_init : Cond) ∈ gw := List.mem_filter.mpr ⟨List.mem_append_right _ (tb1 (List.mem_of_getElem? (i := 29) rfl)), rfl⟩
set_option maxRecDepth 100000 in
theorem w_71 : (Cond.code yX1_init prog_3_method_1_code 2 (Option.none : Option Jvm.ClassFile.FieldType) : Cond) ∈ gw := List.mem_filter.mpr ⟨List.mem_append_right _ (tb1 (List.mem_of_getElem? (i := 31) rfl)), rfl⟩
set_option maxRecDepth 100000 in
theorem w_72 : (Cond.instanceMethod yX1_init : Cond) ∈ gw := List.mem_filter.mpr ⟨List.mem_append_right _ (tb1 (List.mem_of_getElem? (i := 30) rfl)), rfl⟩
set_option maxRecDepth 100000 in
theorem w_73 : (Cond.fieldLink "BelfryBox" 21 "BelfryBox" "devices" "LBelfryBox$Devices;" : Cond) ∈ gw := List.mem_filter.mpr ⟨List.mem_append_right _ (tb2 (List.mem_of_getElem? (i := 48) rfl)), rfl⟩
set_option maxRecDepth 100000 in
theorem w_74 : (Cond.classLink "BelfryBox" 25 "BelfryBox$Past" : Cond) ∈ gw := List.mem_filter.mpr ⟨List.mem_append_right _ (tb1 (List.mem_of_getElem? (i := 53) rfl)), rfl⟩
set_option maxRecDepth 100000 in
theorem w_75 : (Cond.instantiable "BelfryBox$Past" 3 : Cond) ∈ gw := List.mem_filter.mpr ⟨List.mem_append_right _ (tb1 (List.mem_of_getElem? (i := 54) rfl)), rfl⟩
set_option maxRecDepth 100000 in
theorem w_76 : (Cond.code yX3_init prog_5_method_1_code 1 (Option.none : Option Jvm.ClassFile.FieldType) : Cond) ∈ gw := List.mem_filter.mpr ⟨List.mem_append_right _ (tb1 (List.mem_of_getElem? (i := 57) rfl)), rfl⟩
set_option maxRecDepth 100000 in
theorem w_77 : (Cond.instanceMethod yX3_init : Cond) ∈ gw := List.mem_filter.mpr ⟨List.mem_append_right _ (tb1 (List.mem_of_getElem? (i := 56) rfl)), rfl⟩
set_option maxRecDepth 100000 in
theorem w_78 : (Cond.fieldLink "BelfryBox" 28 "BelfryBox" "past" "LBelfryBox$Past;" : Cond) ∈ gw := List.mem_filter.mpr ⟨List.mem_append_right _ (tb2 (List.mem_of_getElem? (i := 49) rfl)), rfl⟩
set_option maxRecDepth 100000 in
theorem w_79 : (Cond.classLink "BelfryBox" 32 "BelfryBox$Processor" : Cond) ∈ gw := List.mem_filter.mpr ⟨List.mem_append_right _ (tb1 (List.mem_of_getElem? (i := 70) rfl)), rfl⟩
set_option maxRecDepth 100000 in
theorem w_80 : (Cond.instantiable "BelfryBox$Processor" 7 : Cond) ∈ gw := List.mem_filter.mpr ⟨List.mem_append_right _ (tb1 (List.mem_of_getElem? (i := 71) rfl)), rfl⟩
set_option maxRecDepth 100000 in
theorem w_81 : (Cond.methodLink "BelfryBox" 34 yX4_init : Cond) ∈ gw := List.mem_filter.mpr ⟨List.mem_append_right _ (tb1 (List.mem_of_getElem? (i := 72) rfl)), rfl⟩
set_option maxRecDepth 100000 in
theorem w_82 : (Cond.code yX4_init prog_6_method_1_code 5 (Option.none : Option Jvm.ClassFile.FieldType) : Cond) ∈ gw := List.mem_filter.mpr ⟨List.mem_append_right _ (tb1 (List.mem_of_getElem? (i := 74) rfl)), rfl⟩
set_option maxRecDepth 100000 in
theorem w_83 : (Cond.instanceMethod yX4_init : Cond) ∈ gw := List.mem_filter.mpr ⟨List.mem_append_right _ (tb1 (List.mem_of_getElem? (i := 73) rfl)), rfl⟩
set_option maxRecDepth 100000 in
theorem w_84 : (Cond.fieldLink "BelfryBox" 37 "BelfryBox" "processor" "LBelfryBox$Processor;" : Cond) ∈ gw := List.mem_filter.mpr ⟨List.mem_append_right _ (tb2 (List.mem_of_getElem? (i := 50) rfl)), rfl⟩
set_option maxRecDepth 100000 in
theorem w_85 : (Cond.classLink "BelfryBox" 41 "BelfryBox$Stops" : Cond) ∈ gw := List.mem_filter.mpr ⟨List.mem_append_right _ (tb1 (List.mem_of_getElem? (i := 101) rfl)), rfl⟩
set_option maxRecDepth 100000 in
theorem w_86 : (Cond.instantiable "BelfryBox$Stops" 2 : Cond) ∈ gw := List.mem_filter.mpr ⟨List.mem_append_right _ (tb1 (List.mem_of_getElem? (i := 102) rfl)), rfl⟩
set_option maxRecDepth 100000 in
theorem w_87 : (Cond.initialized "BelfryBox$Stops" : Cond) ∈ gw := List.mem_filter.mpr ⟨List.mem_append_right _ (tb1 (List.mem_of_getElem? (i := 5) rfl)), rfl⟩
set_option maxRecDepth 100000 in
theorem w_88 : (Cond.code yX6_init prog_8_method_1_code 1 (Option.none : Option Jvm.ClassFile.FieldType) : Cond) ∈ gw := List.mem_filter.mpr ⟨List.mem_append_right _ (tb1 (List.mem_of_getElem? (i := 105) rfl)), rfl⟩
set_option maxRecDepth 100000 in
theorem w_89 : (Cond.instanceMethod yX6_init : Cond) ∈ gw := List.mem_filter.mpr ⟨List.mem_append_right _ (tb1 (List.mem_of_getElem? (i := 104) rfl)), rfl⟩
set_option maxRecDepth 100000 in
theorem w_90 : (Cond.fieldLink "BelfryBox" 44 "BelfryBox" "stops" "LBelfryBox$Stops;" : Cond) ∈ gw := List.mem_filter.mpr ⟨List.mem_append_right _ (tb2 (List.mem_of_getElem? (i := 51) rfl)), rfl⟩
set_option maxRecDepth 100000 in
theorem w_91 : (Cond.classLink "BelfryBox" 48 "BelfryBox$Tape" : Cond) ∈ gw := List.mem_filter.mpr ⟨List.mem_append_right _ (tb1 (List.mem_of_getElem? (i := 115) rfl)), rfl⟩
set_option maxRecDepth 100000 in
theorem w_92 : (Cond.instantiable "BelfryBox$Tape" 9 : Cond) ∈ gw := List.mem_filter.mpr ⟨List.mem_append_right _ (tb1 (List.mem_of_getElem? (i := 116) rfl)), rfl⟩
set_option maxRecDepth 100000 in
theorem w_93 : (Cond.initialized "BelfryBox$Tape" : Cond) ∈ gw := List.mem_filter.mpr ⟨List.mem_append_right _ (tb1 (List.mem_of_getElem? (i := 6) rfl)), rfl⟩
set_option maxRecDepth 100000 in
theorem w_94 : (Cond.code yX7_init prog_9_method_1_code 1 (Option.none : Option Jvm.ClassFile.FieldType) : Cond) ∈ gw := List.mem_filter.mpr ⟨List.mem_append_right _ (tb1 (List.mem_of_getElem? (i := 119) rfl)), rfl⟩
set_option maxRecDepth 100000 in
theorem w_95 : (Cond.instanceMethod yX7_init : Cond) ∈ gw := List.mem_filter.mpr ⟨List.mem_append_right _ (tb1 (List.mem_of_getElem? (i := 118) rfl)), rfl⟩
set_option maxRecDepth 100000 in
theorem w_96 : (Cond.fieldLink "BelfryBox" 51 "BelfryBox" "tape" "LBelfryBox$Tape;" : Cond) ∈ gw := List.mem_filter.mpr ⟨List.mem_append_right _ (tb2 (List.mem_of_getElem? (i := 52) rfl)), rfl⟩
set_option maxRecDepth 100000 in
theorem w_97 : (Cond.classLink "BelfryBox" 55 "BelfryBox$Assembler" : Cond) ∈ gw := List.mem_filter.mpr ⟨List.mem_append_right _ (tb1 (List.mem_of_getElem? (i := 159) rfl)), rfl⟩
set_option maxRecDepth 100000 in
theorem w_98 : (Cond.instantiable "BelfryBox$Assembler" 18 : Cond) ∈ gw := List.mem_filter.mpr ⟨List.mem_append_right _ (tb1 (List.mem_of_getElem? (i := 160) rfl)), rfl⟩
set_option maxRecDepth 100000 in
theorem w_99 : (Cond.initialized "BelfryBox$Assembler" : Cond) ∈ gw := List.mem_filter.mpr ⟨List.mem_append_right _ (tb1 (List.mem_of_getElem? (i := 7) rfl)), rfl⟩
set_option maxRecDepth 100000 in
theorem w_100 : (Cond.methodLink "BelfryBox" 57 yX0_init : Cond) ∈ gw := List.mem_filter.mpr ⟨List.mem_append_right _ (tb1 (List.mem_of_getElem? (i := 161) rfl)), rfl⟩
set_option maxRecDepth 100000 in
theorem w_101 : (Cond.code yX0_init prog_2_method_1_code 2 (Option.none : Option Jvm.ClassFile.FieldType) : Cond) ∈ gw := List.mem_filter.mpr ⟨List.mem_append_right _ (tb1 (List.mem_of_getElem? (i := 163) rfl)), rfl⟩
set_option maxRecDepth 100000 in
theorem w_102 : (Cond.instanceMethod yX0_init : Cond) ∈ gw := List.mem_filter.mpr ⟨List.mem_append_right _ (tb1 (List.mem_of_getElem? (i := 162) rfl)), rfl⟩
set_option maxRecDepth 100000 in
theorem w_103 : (Cond.fieldLink "BelfryBox" 60 "BelfryBox" "assembler" "LBelfryBox$Assembler;" : Cond) ∈ gw := List.mem_filter.mpr ⟨List.mem_append_right _ (tb2 (List.mem_of_getElem? (i := 53) rfl)), rfl⟩
set_option maxRecDepth 100000 in
theorem w_104 : (Cond.classLink "BelfryBox" 64 "BelfryBox$Reader" : Cond) ∈ gw := List.mem_filter.mpr ⟨List.mem_append_right _ (tb2 (List.mem_of_getElem? (i := 8) rfl)), rfl⟩
set_option maxRecDepth 100000 in
theorem w_105 : (Cond.instantiable "BelfryBox$Reader" 2 : Cond) ∈ gw := List.mem_filter.mpr ⟨List.mem_append_right _ (tb2 (List.mem_of_getElem? (i := 9) rfl)), rfl⟩
set_option maxRecDepth 100000 in
theorem w_106 : (Cond.initialized "BelfryBox$Reader" : Cond) ∈ gw := List.mem_filter.mpr ⟨List.mem_append_right _ (tb1 (List.mem_of_getElem? (i := 9) rfl)), rfl⟩
set_option maxRecDepth 100000 in
theorem w_107 : (Cond.code yX5_init prog_7_method_1_code 1 (Option.none : Option Jvm.ClassFile.FieldType) : Cond) ∈ gw := List.mem_filter.mpr ⟨List.mem_append_right _ (tb2 (List.mem_of_getElem? (i := 12) rfl)), rfl⟩
set_option maxRecDepth 100000 in
theorem w_108 : (Cond.instanceMethod yX5_init : Cond) ∈ gw := List.mem_filter.mpr ⟨List.mem_append_right _ (tb2 (List.mem_of_getElem? (i := 11) rfl)), rfl⟩
set_option maxRecDepth 100000 in
theorem w_109 : (Cond.fieldLink "BelfryBox" 67 "BelfryBox" "reader" "LBelfryBox$Reader;" : Cond) ∈ gw := List.mem_filter.mpr ⟨List.mem_append_right _ (tb2 (List.mem_of_getElem? (i := 54) rfl)), rfl⟩
set_option maxRecDepth 100000 in
theorem w_110 : (Cond.methodLink "BelfryBox" 71 yX4_beginAnew : Cond) ∈ gw := List.mem_filter.mpr ⟨List.mem_append_right _ (tb2 (List.mem_of_getElem? (i := 23) rfl)), rfl⟩
set_option maxRecDepth 100000 in
theorem w_111 : (Cond.code yX4_beginAnew prog_6_method_2_code 1 (Option.none : Option Jvm.ClassFile.FieldType) : Cond) ∈ gw := List.mem_filter.mpr ⟨List.mem_append_right _ (tb2 (List.mem_of_getElem? (i := 26) rfl)), rfl⟩
set_option maxRecDepth 100000 in
theorem w_112 : (Cond.instanceMethod yX4_beginAnew : Cond) ∈ gw := List.mem_filter.mpr ⟨List.mem_append_right _ (tb2 (List.mem_of_getElem? (i := 24) rfl)), rfl⟩
set_option maxRecDepth 100000 in
theorem w_113 : (Cond.selects "BelfryBox$Processor" yX4_beginAnew yX4_beginAnew : Cond) ∈ gw := List.mem_filter.mpr ⟨List.mem_append_right _ (tb2 (List.mem_of_getElem? (i := 25) rfl)), rfl⟩
theorem nw_3 : (Cond.methodLinkNest "BelfryBox" 27 yX3_init "BelfryBox" : Cond) ∈ nests := List.mem_of_getElem? (i := 3) rfl
theorem nw_8 : (Cond.methodLinkNest "BelfryBox" 43 yX6_init "BelfryBox" : Cond) ∈ nests := List.mem_of_getElem? (i := 8) rfl
theorem nw_10 : (Cond.methodLinkNest "BelfryBox" 50 yX7_init "BelfryBox" : Cond) ∈ nests := List.mem_of_getElem? (i := 10) rfl
theorem nw_28 : (Cond.methodLinkNest "BelfryBox" 66 yX5_init "BelfryBox" : Cond) ∈ nests := List.mem_of_getElem? (i := 28) rfl
theorem dX8_init_0 : decode cX8_init 0 = .ok (.aload_n 0, 1) := by decide +kernel
theorem dX8_init_1 : decode cX8_init 1 = .ok (.invokespecial 1, 3) := by decide +kernel
theorem dX8_init_4 : decode cX8_init 4 = .ok (.aload_n 0, 1) := by decide +kernel
theorem dX8_init_5 : decode cX8_init 5 = .ok (.bipush 34, 2) := by decide +kernel
theorem dX8_init_7 : decode cX8_init 7 = .ok (.newarray .int, 2) := by decide +kernel
theorem dX8_init_9 : decode cX8_init 9 = .ok (.putfield 9, 3) := by decide +kernel
theorem dX8_init_12 : decode cX8_init 12 = .ok (.aload_n 0, 1) := by decide +kernel
theorem dX8_init_13 : decode cX8_init 13 = .ok (.sipush 4096, 3) := by decide +kernel
theorem dX8_init_16 : decode cX8_init 16 = .ok (.newarray .int, 2) := by decide +kernel
theorem dX8_init_18 : decode cX8_init 18 = .ok (.putfield 13, 3) := by decide +kernel
theorem dX8_init_21 : decode cX8_init 21 = .ok (.aload_n 0, 1) := by decide +kernel
theorem dX8_init_22 : decode cX8_init 22 = .ok (.new 16, 3) := by decide +kernel
theorem dX8_init_25 : decode cX8_init 25 = .ok (.dup, 1) := by decide +kernel
theorem dX8_init_26 : decode cX8_init 26 = .ok (.aload_n 0, 1) := by decide +kernel
theorem dX8_init_27 : decode cX8_init 27 = .ok (.getfield 9, 3) := by decide +kernel
theorem dX8_init_30 : decode cX8_init 30 = .ok (.invokespecial 18, 3) := by decide +kernel
theorem dX8_init_33 : decode cX8_init 33 = .ok (.putfield 21, 3) := by decide +kernel
theorem dX8_init_36 : decode cX8_init 36 = .ok (.aload_n 0, 1) := by decide +kernel
theorem dX8_init_37 : decode cX8_init 37 = .ok (.new 25, 3) := by decide +kernel
theorem dX8_init_40 : decode cX8_init 40 = .ok (.dup, 1) := by decide +kernel
theorem dX8_init_41 : decode cX8_init 41 = .ok (.invokespecial 27, 3) := by decide +kernel
theorem dX8_init_44 : decode cX8_init 44 = .ok (.putfield 28, 3) := by decide +kernel
theorem dX8_init_47 : decode cX8_init 47 = .ok (.aload_n 0, 1) := by decide +kernel
theorem dX8_init_48 : decode cX8_init 48 = .ok (.new 32, 3) := by decide +kernel
theorem dX8_init_51 : decode cX8_init 51 = .ok (.dup, 1) := by decide +kernel
theorem dX8_init_52 : decode cX8_init 52 = .ok (.aload_n 0, 1) := by decide +kernel
theorem dX8_init_53 : decode cX8_init 53 = .ok (.getfield 9, 3) := by decide +kernel
theorem dX8_init_56 : decode cX8_init 56 = .ok (.aload_n 0, 1) := by decide +kernel
theorem dX8_init_57 : decode cX8_init 57 = .ok (.getfield 13, 3) := by decide +kernel
theorem dX8_init_60 : decode cX8_init 60 = .ok (.aload_n 0, 1) := by decide +kernel
theorem dX8_init_61 : decode cX8_init 61 = .ok (.getfield 21, 3) := by decide +kernel
theorem dX8_init_64 : decode cX8_init 64 = .ok (.aload_n 0, 1) := by decide +kernel
theorem dX8_init_65 : decode cX8_init 65 = .ok (.getfield 28, 3) := by decide +kernel
theorem dX8_init_68 : decode cX8_init 68 = .ok (.invokespecial 34, 3) := by decide +kernel
theorem dX8_init_71 : decode cX8_init 71 = .ok (.putfield 37, 3) := by decide +kernel
theorem dX8_init_74 : decode cX8_init 74 = .ok (.aload_n 0, 1) := by decide +kernel
theorem dX8_init_75 : decode cX8_init 75 = .ok (.new 41, 3) := by decide +kernel
theorem dX8_init_78 : decode cX8_init 78 = .ok (.dup, 1) := by decide +kernel
theorem dX8_init_79 : decode cX8_init 79 = .ok (.invokespecial 43, 3) := by decide +kernel
theorem dX8_init_82 : decode cX8_init 82 = .ok (.putfield 44, 3) := by decide +kernel
theorem dX8_init_85 : decode cX8_init 85 = .ok (.aload_n 0, 1) := by decide +kernel
theorem dX8_init_86 : decode cX8_init 86 = .ok (.new 48, 3) := by decide +kernel
theorem dX8_init_89 : decode cX8_init 89 = .ok (.dup, 1) := by decide +kernel
theorem dX8_init_90 : decode cX8_init 90 = .ok (.invokespecial 50, 3) := by decide +kernel
theorem dX8_init_93 : decode cX8_init 93 = .ok (.putfield 51, 3) := by decide +kernel
theorem dX8_init_96 : decode cX8_init 96 = .ok (.aload_n 0, 1) := by decide +kernel
theorem dX8_init_97 : decode cX8_init 97 = .ok (.new 55, 3) := by decide +kernel
theorem dX8_init_100 : decode cX8_init 100 = .ok (.dup, 1) := by decide +kernel
theorem dX8_init_101 : decode cX8_init 101 = .ok (.aload_n 0, 1) := by decide +kernel
theorem dX8_init_102 : decode cX8_init 102 = .ok (.getfield 51, 3) := by decide +kernel
theorem dX8_init_105 : decode cX8_init 105 = .ok (.invokespecial 57, 3) := by decide +kernel
theorem dX8_init_108 : decode cX8_init 108 = .ok (.putfield 60, 3) := by decide +kernel
theorem dX8_init_111 : decode cX8_init 111 = .ok (.aload_n 0, 1) := by decide +kernel
theorem dX8_init_112 : decode cX8_init 112 = .ok (.new 64, 3) := by decide +kernel
theorem dX8_init_115 : decode cX8_init 115 = .ok (.dup, 1) := by decide +kernel
theorem dX8_init_116 : decode cX8_init 116 = .ok (.invokespecial 66, 3) := by decide +kernel
theorem dX8_init_119 : decode cX8_init 119 = .ok (.putfield 67, 3) := by decide +kernel
theorem dX8_init_122 : decode cX8_init 122 = .ok (.aload_n 0, 1) := by decide +kernel
theorem dX8_init_123 : decode cX8_init 123 = .ok (.getfield 37, 3) := by decide +kernel
theorem dX8_init_126 : decode cX8_init 126 = .ok (.invokevirtual 71, 3) := by decide +kernel
theorem dX8_init_129 : decode cX8_init 129 = .ok (.return_, 1) := by decide +kernel
/-- the numbers of a fresh object -/
def frn (f : Nat → Int32) : Prop := ∀ j, j < 34 → f j = if j = 3 then 255 else if j = 5 then 4 else if j = 18 then 1 else 0
theorem frn_of {g : Nat → Int32} (h : ∀ j, j < 34 → g j = 0) : frn (upd (upd (upd (upd (upd (upd (upd (upd g 18 1) 0 0) 1 0) 2 0) 3 255) 5 4) 4 ((0 + (256 * 0)) &&& 4095)) 6 0) := by
  intro j hj
  have h0 := h j hj
  simp only [upd, h0]
  have e : ((0 + (256 * 0)) &&& 4095 : Int32) = 0 := by decide
  rw [e]
  clear h0
  revert j
  decide
set_option maxHeartbeats 4000000 in
set_option maxRecDepth 100000 in
theorem c_Box_init (l : Launch) (D : va_G) (cA cB : ClassId) (h0 : Nat)  : CV l yX8_init cX8_init 1 none 4 82 29 26983 D cA cB [.ref h0] [(h0, .inr (8, [.null, .null, .null, .null, .null, .null, .null, .null, .null]))] (fun W1 => ∃ (qn : Nat) (qs : Nat) (qd : Nat) (qd1 : Nat) (qd2 : Nat) (qd3 : Nat) (qd4 : Nat) (qp : Nat) (qpe : Nat) (qr : Nat) (qrc : Nat) (qt : Nat) (qtp : Nat) (qa : Nat) (qab : Nat) (qm : Nat) (qmi : Nat) (qmt : Nat) (qmta : Nat) (qmtb : Nat) (qmtc : Nat) (qmtd : Nat) (qms : Nat) (qmsa : Nat) (qmsb : Nat) (qmsc : Nat) (qmsd : Nat) (qe : Nat) (qel : Nat) (f : Nat → Int32) (gc : Nat → Int32), (frn f) ∧ (∀ j, j < 257 → gc j = 0) ∧ W1 = [(h0, .inr (8, [.ref qn, .ref qs, .ref qd, .ref qp, .ref qr, .ref qt, .ref qa, .ref qm, .ref qe])), (qn, .inl (cA, 34, .inl f)), (qs, .inl (cA, 4096, .inl (fun _ => 0))), (qd, .inr (1, [.ref qn, .ref qd1, .ref qd2, .ref qd3, .ref qd4])), (qd1, .inl (cA, 64, .inl (fun _ => 0))), (qd2, .inl (cA, 16, .inl (fun _ => 0))), (qd3, .inl (cA, 900, .inl (fun _ => 0))), (qd4, .inl (cA, 200, .inl (fun _ => 0))), (qp, .inr (3, [.ref qpe, .int 0, .int 0])), (qpe, .inl (cA, 10752, .inl (fun _ => 0))), (qr, .inr (4, [.ref qn, .ref qs, .ref qd, .ref qp, .ref qrc, .int 0, .int 0])), (qrc, .inl (cA, 257, .inl gc)), (qt, .inr (6, [.ref qtp, .int 0])), (qtp, .inl (cA, 16, .inl (fun _ => 0))), (qa, .inr (7, [.ref qab, .int 0, .int 0, .int 0, .int 0, .int 0, .int 0, .int 0, .int 0])), (qab, .inl (cA, 6000, .inl (fun _ => 0))), (qm, .inr (0, [.ref qa, .ref qmi, .ref qmt, .ref qms, .int (-1), .int (-1), .int 0, .int 0, .int 0, .int 0, .int 0, .int 0, .int 0, .int 0, .int 0, .int 0, .int 0, .int 0])), (qmi, .inl (cA, 4096, .inl (fun _ => 0))), (qmt, .inr (2, [.ref qmta, .ref qmtb, .ref qmtc, .ref qmtd, .int 0])), (qmta, .inl (cA, 60, .inl (fun _ => 0))), (qmtb, .inl (cA, 60, .inl (fun _ => 0))), (qmtc, .inl (cA, 60, .inl (fun _ => 0))), (qmtd, .inl (cA, 60, .inl (fun _ => 0))), (qms, .inr (2, [.ref qmsa, .ref qmsb, .ref qmsc, .ref qmsd, .int 0])), (qmsa, .inl (cA, 60, .inl (fun _ => 0))), (qmsb, .inl (cA, 60, .inl (fun _ => 0))), (qmsc, .inl (cA, 60, .inl (fun _ => 0))), (qmsd, .inl (cA, 60, .inl (fun _ => 0))), (qe, .inr (5, [.ref qel, .int 0])), (qel, .inl (cA, 16, .inl (fun _ => 0)))]) := by
  refine mkV (lv0 := [(0, .ref h0)]) (by decide) (Nat.le_of_ble_eq_true rfl) rfl ?_
  intro p e s m below meth c A ls X hr hlocks hnm hE hA hP hD hS hl
  have hx := X.1
  have hb := X.2.1
  refine lv_aload_n hx hb dX8_init_0 rfl (lv_at hl 0 rfl) ?_
  refine k_obj X w_64 w_2 w_3 hl.1 (Nat.le_of_ble_eq_true rfl) (Nat.le_of_ble_eq_true rfl) dX8_init_1 ?_
  refine lv_aload_n hx hb dX8_init_4 rfl (lv_at hl 0 rfl) ?_
  refine lv_bipush (v := 34) hx hb dX8_init_5 (by decide) ?_
  refine k_newa X w_4 hE hP hD hS hA 34 rfl (by decide) (by decide) (by decide) dX8_init_7 (fun qa_1 H hP hD hS => ?_)
  have hP : va_P D classes [(h0, .inr (8, [.null, .null, .null, .null, .null, .null, .null, .null, .null])), (qa_1, .inl (cA, 34, .inl (fun _ => 0)))] H := hP
  have hD : va_D A [(h0, .inr (8, [.null, .null, .null, .null, .null, .null, .null, .null, .null])), (qa_1, .inl (cA, 34, .inl (fun _ => 0)))] := hD
  refine k_putF (C := RX8) (T := TX8) (N := 9) (ci := 8) (v := .ref qa_1) (ty := (.array .int)) X hE hP hD hS 0 rfl rfl iX8 tyX8 tyX8_ok nmX8 0 (by decide) w_65 rfl hnm rfl (by decide +kernel) rfl rfl (Nat.le_of_ble_eq_true rfl) [(h0, .inr (8, [.ref qa_1, .null, .null, .null, .null, .null, .null, .null, .null])), (qa_1, .inl (cA, 34, .inl (fun _ => 0)))] rfl dX8_init_9 (fun H locs hP hD hS => ?_)
  refine lv_aload_n hx hb dX8_init_12 rfl (lv_at hl 0 rfl) ?_
  refine lv_sipush (v := 4096) hx hb dX8_init_13 (by decide) ?_
  refine k_newa X w_4 hE hP hD hS hA 4096 rfl (by decide) (by decide) (by decide) dX8_init_16 (fun qa_2 H hP hD hS => ?_)
  have hP : va_P D classes [(h0, .inr (8, [.ref qa_1, .null, .null, .null, .null, .null, .null, .null, .null])), (qa_1, .inl (cA, 34, .inl (fun _ => 0))), (qa_2, .inl (cA, 4096, .inl (fun _ => 0)))] H := hP
  have hD : va_D A [(h0, .inr (8, [.ref qa_1, .null, .null, .null, .null, .null, .null, .null, .null])), (qa_1, .inl (cA, 34, .inl (fun _ => 0))), (qa_2, .inl (cA, 4096, .inl (fun _ => 0)))] := hD
  refine k_putF (C := RX8) (T := TX8) (N := 9) (ci := 8) (v := .ref qa_2) (ty := (.array .int)) X hE hP hD hS 0 rfl rfl iX8 tyX8 tyX8_ok nmX8 1 (by decide) w_66 rfl hnm rfl (by decide +kernel) rfl rfl (Nat.le_of_ble_eq_true rfl) [(h0, .inr (8, [.ref qa_1, .ref qa_2, .null, .null, .null, .null, .null, .null, .null])), (qa_1, .inl (cA, 34, .inl (fun _ => 0))), (qa_2, .inl (cA, 4096, .inl (fun _ => 0)))] rfl dX8_init_18 (fun H locs hP hD hS => ?_)
  refine lv_aload_n hx hb dX8_init_21 rfl (lv_at hl 0 rfl) ?_
  refine k_new (C := RX1) (T := TX1) (N := 5) (ci := 1) (fs := [.null, .null, .null, .null, .null]) X hE hP hD hS hA rfl iX1 tyX1 tyX1_ok (fun j hj => by rcases (show j = 0 ∨ j = 1 ∨ j = 2 ∨ j = 3 ∨ j = 4 by omega) with rfl | rfl | rfl | rfl | rfl <;> rfl) w_67 w_68 w_69 (by decide) (by decide) dX8_init_22 (fun qo_3 H hP hD hS => ?_)
  have hP : va_P D classes [(h0, .inr (8, [.ref qa_1, .ref qa_2, .null, .null, .null, .null, .null, .null, .null])), (qa_1, .inl (cA, 34, .inl (fun _ => 0))), (qa_2, .inl (cA, 4096, .inl (fun _ => 0))), (qo_3, .inr (1, [.null, .null, .null, .null, .null]))] H := hP
  have hD : va_D A [(h0, .inr (8, [.ref qa_1, .ref qa_2, .null, .null, .null, .null, .null, .null, .null])), (qa_1, .inl (cA, 34, .inl (fun _ => 0))), (qa_2, .inl (cA, 4096, .inl (fun _ => 0))), (qo_3, .inr (1, [.null, .null, .null, .null, .null]))] := hD
  refine lv_dup hx hb dX8_init_25 rfl ?_
  refine lv_aload_n hx hb dX8_init_26 rfl (lv_at hl 0 rfl) ?_
  refine k_get (C := RX8) (T := TX8) (N := 9) (ci := 8) (v := .ref qa_1) X hE hP 0 rfl rfl iX8 0 (by decide) w_65 rfl dX8_init_27 ?_
  refine kIv (n3 := 1) (As := [.ref qa_1]) (rest := [.ref qo_3, .ref h0]) X hl.1 hE hP hD hS hA [(qo_3, .inr (1, [.null, .null, .null, .null, .null]))] [(h0, .inr (8, [.ref qa_1, .ref qa_2, .null, .null, .null, .null, .null, .null, .null])), (qa_1, .inl (cA, 34, .inl (fun _ => 0))), (qa_2, .inl (cA, 4096, .inl (fun _ => 0)))] [3] [0, 1, 2] rfl rfl rfl (by decide) (by decide) (by decide) (c_Devices_init l D cA cB qo_3 qa_1 ) w_71 w_69 w_70 w_72 rfl (by decide +kernel) rfl rfl (Nat.le_of_ble_eq_true rfl) ⟨(Nat.le_of_ble_eq_true rfl), (Nat.le_of_ble_eq_true rfl)⟩ ⟨(Nat.le_of_ble_eq_true rfl), (Nat.le_of_ble_eq_true rfl)⟩ dX8_init_30 (fun W1 H locs hw hP hD hS => ?_)
  obtain ⟨qa_4, qb_5, qc_6, qd_7, rfl⟩ := hw
  have hP : va_P D classes [(h0, .inr (8, [.ref qa_1, .ref qa_2, .null, .null, .null, .null, .null, .null, .null])), (qa_1, .inl (cA, 34, .inl (fun _ => 0))), (qa_2, .inl (cA, 4096, .inl (fun _ => 0))), (qo_3, .inr (1, [.ref qa_1, .ref qa_4, .ref qb_5, .ref qc_6, .ref qd_7])), (qa_4, .inl (cA, 64, .inl (fun _ => 0))), (qb_5, .inl (cA, 16, .inl (fun _ => 0))), (qc_6, .inl (cA, 900, .inl (fun _ => 0))), (qd_7, .inl (cA, 200, .inl (fun _ => 0)))] H := hP
  have hD : va_D A [(h0, .inr (8, [.ref qa_1, .ref qa_2, .null, .null, .null, .null, .null, .null, .null])), (qa_1, .inl (cA, 34, .inl (fun _ => 0))), (qa_2, .inl (cA, 4096, .inl (fun _ => 0))), (qo_3, .inr (1, [.ref qa_1, .ref qa_4, .ref qb_5, .ref qc_6, .ref qd_7])), (qa_4, .inl (cA, 64, .inl (fun _ => 0))), (qb_5, .inl (cA, 16, .inl (fun _ => 0))), (qc_6, .inl (cA, 900, .inl (fun _ => 0))), (qd_7, .inl (cA, 200, .inl (fun _ => 0)))] := hD
  refine k_putF (C := RX8) (T := TX8) (N := 9) (ci := 8) (v := .ref qo_3) (ty := (.object "BelfryBox$Devices")) X hE hP hD hS 0 rfl rfl iX8 tyX8 tyX8_ok nmX8 2 (by decide) w_73 rfl hnm rfl (by decide +kernel) rfl rfl (Nat.le_of_ble_eq_true rfl) [(h0, .inr (8, [.ref qa_1, .ref qa_2, .ref qo_3, .null, .null, .null, .null, .null, .null])), (qa_1, .inl (cA, 34, .inl (fun _ => 0))), (qa_2, .inl (cA, 4096, .inl (fun _ => 0))), (qo_3, .inr (1, [.ref qa_1, .ref qa_4, .ref qb_5, .ref qc_6, .ref qd_7])), (qa_4, .inl (cA, 64, .inl (fun _ => 0))), (qb_5, .inl (cA, 16, .inl (fun _ => 0))), (qc_6, .inl (cA, 900, .inl (fun _ => 0))), (qd_7, .inl (cA, 200, .inl (fun _ => 0)))] rfl dX8_init_33 (fun H locs hP hD hS => ?_)
  refine lv_aload_n hx hb dX8_init_36 rfl (lv_at hl 0 rfl) ?_
  refine k_new (C := RX3) (T := TX3) (N := 3) (ci := 3) (fs := [.null, .int 0, .int 0]) X hE hP hD hS hA rfl iX3 tyX3 tyX3_ok (fun j hj => by rcases (show j = 0 ∨ j = 1 ∨ j = 2 by omega) with rfl | rfl | rfl <;> rfl) w_74 w_75 w_61 (by decide) (by decide) dX8_init_37 (fun qo_8 H hP hD hS => ?_)
  have hP : va_P D classes [(h0, .inr (8, [.ref qa_1, .ref qa_2, .ref qo_3, .null, .null, .null, .null, .null, .null])), (qa_1, .inl (cA, 34, .inl (fun _ => 0))), (qa_2, .inl (cA, 4096, .inl (fun _ => 0))), (qo_3, .inr (1, [.ref qa_1, .ref qa_4, .ref qb_5, .ref qc_6, .ref qd_7])), (qa_4, .inl (cA, 64, .inl (fun _ => 0))), (qb_5, .inl (cA, 16, .inl (fun _ => 0))), (qc_6, .inl (cA, 900, .inl (fun _ => 0))), (qd_7, .inl (cA, 200, .inl (fun _ => 0))), (qo_8, .inr (3, [.null, .int 0, .int 0]))] H := hP
  have hD : va_D A [(h0, .inr (8, [.ref qa_1, .ref qa_2, .ref qo_3, .null, .null, .null, .null, .null, .null])), (qa_1, .inl (cA, 34, .inl (fun _ => 0))), (qa_2, .inl (cA, 4096, .inl (fun _ => 0))), (qo_3, .inr (1, [.ref qa_1, .ref qa_4, .ref qb_5, .ref qc_6, .ref qd_7])), (qa_4, .inl (cA, 64, .inl (fun _ => 0))), (qb_5, .inl (cA, 16, .inl (fun _ => 0))), (qc_6, .inl (cA, 900, .inl (fun _ => 0))), (qd_7, .inl (cA, 200, .inl (fun _ => 0))), (qo_8, .inr (3, [.null, .int 0, .int 0]))] := hD
  refine lv_dup hx hb dX8_init_40 rfl ?_
  refine kINv (n3 := 0) (As := []) (rest := [.ref qo_8, .ref h0]) X hl.1 hE hP hD hS hA [(qo_8, .inr (3, [.null, .int 0, .int 0]))] [(h0, .inr (8, [.ref qa_1, .ref qa_2, .ref qo_3, .null, .null, .null, .null, .null, .null])), (qa_1, .inl (cA, 34, .inl (fun _ => 0))), (qa_2, .inl (cA, 4096, .inl (fun _ => 0))), (qo_3, .inr (1, [.ref qa_1, .ref qa_4, .ref qb_5, .ref qc_6, .ref qd_7])), (qa_4, .inl (cA, 64, .inl (fun _ => 0))), (qb_5, .inl (cA, 16, .inl (fun _ => 0))), (qc_6, .inl (cA, 900, .inl (fun _ => 0))), (qd_7, .inl (cA, 200, .inl (fun _ => 0)))] [8] [0, 1, 2, 3, 4, 5, 6, 7] rfl rfl rfl (by decide) (by decide) (by decide) (c_Past_init l D cA cB qo_8 ) w_76 w_61 nw_3 w_77 rfl (by decide +kernel) rfl rfl (Nat.le_of_ble_eq_true rfl) ⟨(Nat.le_of_ble_eq_true rfl), (Nat.le_of_ble_eq_true rfl)⟩ ⟨(Nat.le_of_ble_eq_true rfl), (Nat.le_of_ble_eq_true rfl)⟩ dX8_init_41 (fun W1 H locs hw hP hD hS => ?_)
  obtain ⟨qe_9, rfl⟩ := hw
  have hP : va_P D classes [(h0, .inr (8, [.ref qa_1, .ref qa_2, .ref qo_3, .null, .null, .null, .null, .null, .null])), (qa_1, .inl (cA, 34, .inl (fun _ => 0))), (qa_2, .inl (cA, 4096, .inl (fun _ => 0))), (qo_3, .inr (1, [.ref qa_1, .ref qa_4, .ref qb_5, .ref qc_6, .ref qd_7])), (qa_4, .inl (cA, 64, .inl (fun _ => 0))), (qb_5, .inl (cA, 16, .inl (fun _ => 0))), (qc_6, .inl (cA, 900, .inl (fun _ => 0))), (qd_7, .inl (cA, 200, .inl (fun _ => 0))), (qo_8, .inr (3, [.ref qe_9, .int 0, .int 0])), (qe_9, .inl (cA, 10752, .inl (fun _ => 0)))] H := hP
  have hD : va_D A [(h0, .inr (8, [.ref qa_1, .ref qa_2, .ref qo_3, .null, .null, .null, .null, .null, .null])), (qa_1, .inl (cA, 34, .inl (fun _ => 0))), (qa_2, .inl (cA, 4096, .inl (fun _ => 0))), (qo_3, .inr (1, [.ref qa_1, .ref qa_4, .ref qb_5, .ref qc_6, .ref qd_7])), (qa_4, .inl (cA, 64, .inl (fun _ => 0))), (qb_5, .inl (cA, 16, .inl (fun _ => 0))), (qc_6, .inl (cA, 900, .inl (fun _ => 0))), (qd_7, .inl (cA, 200, .inl (fun _ => 0))), (qo_8, .inr (3, [.ref qe_9, .int 0, .int 0])), (qe_9, .inl (cA, 10752, .inl (fun _ => 0)))] := hD
  refine k_putF (C := RX8) (T := TX8) (N := 9) (ci := 8) (v := .ref qo_8) (ty := (.object "BelfryBox$Past")) X hE hP hD hS 0 rfl rfl iX8 tyX8 tyX8_ok nmX8 3 (by decide) w_78 rfl hnm rfl (by decide +kernel) rfl rfl (Nat.le_of_ble_eq_true rfl) [(h0, .inr (8, [.ref qa_1, .ref qa_2, .ref qo_3, .ref qo_8, .null, .null, .null, .null, .null])), (qa_1, .inl (cA, 34, .inl (fun _ => 0))), (qa_2, .inl (cA, 4096, .inl (fun _ => 0))), (qo_3, .inr (1, [.ref qa_1, .ref qa_4, .ref qb_5, .ref qc_6, .ref qd_7])), (qa_4, .inl (cA, 64, .inl (fun _ => 0))), (qb_5, .inl (cA, 16, .inl (fun _ => 0))), (qc_6, .inl (cA, 900, .inl (fun _ => 0))), (qd_7, .inl (cA, 200, .inl (fun _ => 0))), (qo_8, .inr (3, [.ref qe_9, .int 0, .int 0])), (qe_9, .inl (cA, 10752, .inl (fun _ => 0)))] rfl dX8_init_44 (fun H locs hP hD hS => ?_)
  refine lv_aload_n hx hb dX8_init_47 rfl (lv_at hl 0 rfl) ?_
  refine k_new (C := RX4) (T := TX4) (N := 7) (ci := 4) (fs := [.null, .null, .null, .null, .null, .int 0, .int 0]) X hE hP hD hS hA rfl iX4 tyX4 tyX4_ok (fun j hj => by rcases (show j = 0 ∨ j = 1 ∨ j = 2 ∨ j = 3 ∨ j = 4 ∨ j = 5 ∨ j = 6 by omega) with rfl | rfl | rfl | rfl | rfl | rfl | rfl <;> rfl) w_79 w_80 w_44 (by decide) (by decide) dX8_init_48 (fun qo_10 H hP hD hS => ?_)
  have hP : va_P D classes [(h0, .inr (8, [.ref qa_1, .ref qa_2, .ref qo_3, .ref qo_8, .null, .null, .null, .null, .null])), (qa_1, .inl (cA, 34, .inl (fun _ => 0))), (qa_2, .inl (cA, 4096, .inl (fun _ => 0))), (qo_3, .inr (1, [.ref qa_1, .ref qa_4, .ref qb_5, .ref qc_6, .ref qd_7])), (qa_4, .inl (cA, 64, .inl (fun _ => 0))), (qb_5, .inl (cA, 16, .inl (fun _ => 0))), (qc_6, .inl (cA, 900, .inl (fun _ => 0))), (qd_7, .inl (cA, 200, .inl (fun _ => 0))), (qo_8, .inr (3, [.ref qe_9, .int 0, .int 0])), (qe_9, .inl (cA, 10752, .inl (fun _ => 0))), (qo_10, .inr (4, [.null, .null, .null, .null, .null, .int 0, .int 0]))] H := hP
  have hD : va_D A [(h0, .inr (8, [.ref qa_1, .ref qa_2, .ref qo_3, .ref qo_8, .null, .null, .null, .null, .null])), (qa_1, .inl (cA, 34, .inl (fun _ => 0))), (qa_2, .inl (cA, 4096, .inl (fun _ => 0))), (qo_3, .inr (1, [.ref qa_1, .ref qa_4, .ref qb_5, .ref qc_6, .ref qd_7])), (qa_4, .inl (cA, 64, .inl (fun _ => 0))), (qb_5, .inl (cA, 16, .inl (fun _ => 0))), (qc_6, .inl (cA, 900, .inl (fun _ => 0))), (qd_7, .inl (cA, 200, .inl (fun _ => 0))), (qo_8, .inr (3, [.ref qe_9, .int 0, .int 0])), (qe_9, .inl (cA, 10752, .inl (fun _ => 0))), (qo_10, .inr (4, [.null, .null, .null, .null, .null, .int 0, .int 0]))] := hD
  refine lv_dup hx hb dX8_init_51 rfl ?_
  refine lv_aload_n hx hb dX8_init_52 rfl (lv_at hl 0 rfl) ?_
  refine k_get (C := RX8) (T := TX8) (N := 9) (ci := 8) (v := .ref qa_1) X hE hP 0 rfl rfl iX8 0 (by decide) w_65 rfl dX8_init_53 ?_
  refine lv_aload_n hx hb dX8_init_56 rfl (lv_at hl 0 rfl) ?_
  refine k_get (C := RX8) (T := TX8) (N := 9) (ci := 8) (v := .ref qa_2) X hE hP 0 rfl rfl iX8 1 (by decide) w_66 rfl dX8_init_57 ?_
  refine lv_aload_n hx hb dX8_init_60 rfl (lv_at hl 0 rfl) ?_
  refine k_get (C := RX8) (T := TX8) (N := 9) (ci := 8) (v := .ref qo_3) X hE hP 0 rfl rfl iX8 2 (by decide) w_73 rfl dX8_init_61 ?_
  refine lv_aload_n hx hb dX8_init_64 rfl (lv_at hl 0 rfl) ?_
  refine k_get (C := RX8) (T := TX8) (N := 9) (ci := 8) (v := .ref qo_8) X hE hP 0 rfl rfl iX8 3 (by decide) w_78 rfl dX8_init_65 ?_
  refine kIv (n3 := 4) (As := [.ref qa_1, .ref qa_2, .ref qo_3, .ref qo_8]) (rest := [.ref qo_10, .ref h0]) X hl.1 hE hP hD hS hA [(qo_10, .inr (4, [.null, .null, .null, .null, .null, .int 0, .int 0]))] [(h0, .inr (8, [.ref qa_1, .ref qa_2, .ref qo_3, .ref qo_8, .null, .null, .null, .null, .null])), (qa_1, .inl (cA, 34, .inl (fun _ => 0))), (qa_2, .inl (cA, 4096, .inl (fun _ => 0))), (qo_3, .inr (1, [.ref qa_1, .ref qa_4, .ref qb_5, .ref qc_6, .ref qd_7])), (qa_4, .inl (cA, 64, .inl (fun _ => 0))), (qb_5, .inl (cA, 16, .inl (fun _ => 0))), (qc_6, .inl (cA, 900, .inl (fun _ => 0))), (qd_7, .inl (cA, 200, .inl (fun _ => 0))), (qo_8, .inr (3, [.ref qe_9, .int 0, .int 0])), (qe_9, .inl (cA, 10752, .inl (fun _ => 0)))] [10] [0, 1, 2, 3, 4, 5, 6, 7, 8, 9] rfl rfl rfl (by decide) (by decide) (by decide) (c_Processor_init l D cA cB qo_10 qa_1 qa_2 qo_3 qo_8 ) w_82 w_44 w_81 w_83 rfl (by decide +kernel) rfl rfl (Nat.le_of_ble_eq_true rfl) ⟨(Nat.le_of_ble_eq_true rfl), (Nat.le_of_ble_eq_true rfl)⟩ ⟨(Nat.le_of_ble_eq_true rfl), (Nat.le_of_ble_eq_true rfl)⟩ dX8_init_68 (fun W1 H locs hw hP hD hS => ?_)
  obtain ⟨qc_11, rfl⟩ := hw
  have hP : va_P D classes [(h0, .inr (8, [.ref qa_1, .ref qa_2, .ref qo_3, .ref qo_8, .null, .null, .null, .null, .null])), (qa_1, .inl (cA, 34, .inl (fun _ => 0))), (qa_2, .inl (cA, 4096, .inl (fun _ => 0))), (qo_3, .inr (1, [.ref qa_1, .ref qa_4, .ref qb_5, .ref qc_6, .ref qd_7])), (qa_4, .inl (cA, 64, .inl (fun _ => 0))), (qb_5, .inl (cA, 16, .inl (fun _ => 0))), (qc_6, .inl (cA, 900, .inl (fun _ => 0))), (qd_7, .inl (cA, 200, .inl (fun _ => 0))), (qo_8, .inr (3, [.ref qe_9, .int 0, .int 0])), (qe_9, .inl (cA, 10752, .inl (fun _ => 0))), (qo_10, .inr (4, [.ref qa_1, .ref qa_2, .ref qo_3, .ref qo_8, .ref qc_11, .int 0, .int 0])), (qc_11, .inl (cA, 257, .inl (fun _ => 0)))] H := hP
  have hD : va_D A [(h0, .inr (8, [.ref qa_1, .ref qa_2, .ref qo_3, .ref qo_8, .null, .null, .null, .null, .null])), (qa_1, .inl (cA, 34, .inl (fun _ => 0))), (qa_2, .inl (cA, 4096, .inl (fun _ => 0))), (qo_3, .inr (1, [.ref qa_1, .ref qa_4, .ref qb_5, .ref qc_6, .ref qd_7])), (qa_4, .inl (cA, 64, .inl (fun _ => 0))), (qb_5, .inl (cA, 16, .inl (fun _ => 0))), (qc_6, .inl (cA, 900, .inl (fun _ => 0))), (qd_7, .inl (cA, 200, .inl (fun _ => 0))), (qo_8, .inr (3, [.ref qe_9, .int 0, .int 0])), (qe_9, .inl (cA, 10752, .inl (fun _ => 0))), (qo_10, .inr (4, [.ref qa_1, .ref qa_2, .ref qo_3, .ref qo_8, .ref qc_11, .int 0, .int 0])), (qc_11, .inl (cA, 257, .inl (fun _ => 0)))] := hD
  refine k_putF (C := RX8) (T := TX8) (N := 9) (ci := 8) (v := .ref qo_10) (ty := (.object "BelfryBox$Processor")) X hE hP hD hS 0 rfl rfl iX8 tyX8 tyX8_ok nmX8 4 (by decide) w_84 rfl hnm rfl (by decide +kernel) rfl rfl (Nat.le_of_ble_eq_true rfl) [(h0, .inr (8, [.ref qa_1, .ref qa_2, .ref qo_3, .ref qo_8, .ref qo_10, .null, .null, .null, .null])), (qa_1, .inl (cA, 34, .inl (fun _ => 0))), (qa_2, .inl (cA, 4096, .inl (fun _ => 0))), (qo_3, .inr (1, [.ref qa_1, .ref qa_4, .ref qb_5, .ref qc_6, .ref qd_7])), (qa_4, .inl (cA, 64, .inl (fun _ => 0))), (qb_5, .inl (cA, 16, .inl (fun _ => 0))), (qc_6, .inl (cA, 900, .inl (fun _ => 0))), (qd_7, .inl (cA, 200, .inl (fun _ => 0))), (qo_8, .inr (3, [.ref qe_9, .int 0, .int 0])), (qe_9, .inl (cA, 10752, .inl (fun _ => 0))), (qo_10, .inr (4, [.ref qa_1, .ref qa_2, .ref qo_3, .ref qo_8, .ref qc_11, .int 0, .int 0])), (qc_11, .inl (cA, 257, .inl (fun _ => 0)))] rfl dX8_init_71 (fun H locs hP hD hS => ?_)
  refine lv_aload_n hx hb dX8_init_74 rfl (lv_at hl 0 rfl) ?_
  refine k_new (C := RX6) (T := TX6) (N := 2) (ci := 6) (fs := [.null, .int 0]) X hE hP hD hS hA rfl iX6 tyX6 tyX6_ok (fun j hj => by rcases (show j = 0 ∨ j = 1 by omega) with rfl | rfl <;> rfl) w_85 w_86 w_87 (by decide) (by decide) dX8_init_75 (fun qo_12 H hP hD hS => ?_)
  have hP : va_P D classes [(h0, .inr (8, [.ref qa_1, .ref qa_2, .ref qo_3, .ref qo_8, .ref qo_10, .null, .null, .null, .null])), (qa_1, .inl (cA, 34, .inl (fun _ => 0))), (qa_2, .inl (cA, 4096, .inl (fun _ => 0))), (qo_3, .inr (1, [.ref qa_1, .ref qa_4, .ref qb_5, .ref qc_6, .ref qd_7])), (qa_4, .inl (cA, 64, .inl (fun _ => 0))), (qb_5, .inl (cA, 16, .inl (fun _ => 0))), (qc_6, .inl (cA, 900, .inl (fun _ => 0))), (qd_7, .inl (cA, 200, .inl (fun _ => 0))), (qo_8, .inr (3, [.ref qe_9, .int 0, .int 0])), (qe_9, .inl (cA, 10752, .inl (fun _ => 0))), (qo_10, .inr (4, [.ref qa_1, .ref qa_2, .ref qo_3, .ref qo_8, .ref qc_11, .int 0, .int 0])), (qc_11, .inl (cA, 257, .inl (fun _ => 0))), (qo_12, .inr (6, [.null, .int 0]))] H := hP
  have hD : va_D A [(h0, .inr (8, [.ref qa_1, .ref qa_2, .ref qo_3, .ref qo_8, .ref qo_10, .null, .null, .null, .null])), (qa_1, .inl (cA, 34, .inl (fun _ => 0))), (qa_2, .inl (cA, 4096, .inl (fun _ => 0))), (qo_3, .inr (1, [.ref qa_1, .ref qa_4, .ref qb_5, .ref qc_6, .ref qd_7])), (qa_4, .inl (cA, 64, .inl (fun _ => 0))), (qb_5, .inl (cA, 16, .inl (fun _ => 0))), (qc_6, .inl (cA, 900, .inl (fun _ => 0))), (qd_7, .inl (cA, 200, .inl (fun _ => 0))), (qo_8, .inr (3, [.ref qe_9, .int 0, .int 0])), (qe_9, .inl (cA, 10752, .inl (fun _ => 0))), (qo_10, .inr (4, [.ref qa_1, .ref qa_2, .ref qo_3, .ref qo_8, .ref qc_11, .int 0, .int 0])), (qc_11, .inl (cA, 257, .inl (fun _ => 0))), (qo_12, .inr (6, [.null, .int 0]))] := hD
  refine lv_dup hx hb dX8_init_78 rfl ?_
  refine kINv (n3 := 0) (As := []) (rest := [.ref qo_12, .ref h0]) X hl.1 hE hP hD hS hA [(qo_12, .inr (6, [.null, .int 0]))] [(h0, .inr (8, [.ref qa_1, .ref qa_2, .ref qo_3, .ref qo_8, .ref qo_10, .null, .null, .null, .null])), (qa_1, .inl (cA, 34, .inl (fun _ => 0))), (qa_2, .inl (cA, 4096, .inl (fun _ => 0))), (qo_3, .inr (1, [.ref qa_1, .ref qa_4, .ref qb_5, .ref qc_6, .ref qd_7])), (qa_4, .inl (cA, 64, .inl (fun _ => 0))), (qb_5, .inl (cA, 16, .inl (fun _ => 0))), (qc_6, .inl (cA, 900, .inl (fun _ => 0))), (qd_7, .inl (cA, 200, .inl (fun _ => 0))), (qo_8, .inr (3, [.ref qe_9, .int 0, .int 0])), (qe_9, .inl (cA, 10752, .inl (fun _ => 0))), (qo_10, .inr (4, [.ref qa_1, .ref qa_2, .ref qo_3, .ref qo_8, .ref qc_11, .int 0, .int 0])), (qc_11, .inl (cA, 257, .inl (fun _ => 0)))] [12] [0, 1, 2, 3, 4, 5, 6, 7, 8, 9, 10, 11] rfl rfl rfl (by decide) (by decide) (by decide) (c_Stops_init l D cA cB qo_12 ) w_88 w_87 nw_8 w_89 rfl (by decide +kernel) rfl rfl (Nat.le_of_ble_eq_true rfl) ⟨(Nat.le_of_ble_eq_true rfl), (Nat.le_of_ble_eq_true rfl)⟩ ⟨(Nat.le_of_ble_eq_true rfl), (Nat.le_of_ble_eq_true rfl)⟩ dX8_init_79 (fun W1 H locs hw hP hD hS => ?_)
  obtain ⟨qp_13, rfl⟩ := hw
  have hP : va_P D classes [(h0, .inr (8, [.ref qa_1, .ref qa_2, .ref qo_3, .ref qo_8, .ref qo_10, .null, .null, .null, .null])), (qa_1, .inl (cA, 34, .inl (fun _ => 0))), (qa_2, .inl (cA, 4096, .inl (fun _ => 0))), (qo_3, .inr (1, [.ref qa_1, .ref qa_4, .ref qb_5, .ref qc_6, .ref qd_7])), (qa_4, .inl (cA, 64, .inl (fun _ => 0))), (qb_5, .inl (cA, 16, .inl (fun _ => 0))), (qc_6, .inl (cA, 900, .inl (fun _ => 0))), (qd_7, .inl (cA, 200, .inl (fun _ => 0))), (qo_8, .inr (3, [.ref qe_9, .int 0, .int 0])), (qe_9, .inl (cA, 10752, .inl (fun _ => 0))), (qo_10, .inr (4, [.ref qa_1, .ref qa_2, .ref qo_3, .ref qo_8, .ref qc_11, .int 0, .int 0])), (qc_11, .inl (cA, 257, .inl (fun _ => 0))), (qo_12, .inr (6, [.ref qp_13, .int 0])), (qp_13, .inl (cA, 16, .inl (fun _ => 0)))] H := hP
  have hD : va_D A [(h0, .inr (8, [.ref qa_1, .ref qa_2, .ref qo_3, .ref qo_8, .ref qo_10, .null, .null, .null, .null])), (qa_1, .inl (cA, 34, .inl (fun _ => 0))), (qa_2, .inl (cA, 4096, .inl (fun _ => 0))), (qo_3, .inr (1, [.ref qa_1, .ref qa_4, .ref qb_5, .ref qc_6, .ref qd_7])), (qa_4, .inl (cA, 64, .inl (fun _ => 0))), (qb_5, .inl (cA, 16, .inl (fun _ => 0))), (qc_6, .inl (cA, 900, .inl (fun _ => 0))), (qd_7, .inl (cA, 200, .inl (fun _ => 0))), (qo_8, .inr (3, [.ref qe_9, .int 0, .int 0])), (qe_9, .inl (cA, 10752, .inl (fun _ => 0))), (qo_10, .inr (4, [.ref qa_1, .ref qa_2, .ref qo_3, .ref qo_8, .ref qc_11, .int 0, .int 0])), (qc_11, .inl (cA, 257, .inl (fun _ => 0))), (qo_12, .inr (6, [.ref qp_13, .int 0])), (qp_13, .inl (cA, 16, .inl (fun _ => 0)))] := hD
  refine k_putF (C := RX8) (T := TX8) (N := 9) (ci := 8) (v := .ref qo_12) (ty := (.object "BelfryBox$Stops")) X hE hP hD hS 0 rfl rfl iX8 tyX8 tyX8_ok nmX8 5 (by decide) w_90 rfl hnm rfl (by decide +kernel) rfl rfl (Nat.le_of_ble_eq_true rfl) [(h0, .inr (8, [.ref qa_1, .ref qa_2, .ref qo_3, .ref qo_8, .ref qo_10, .ref qo_12, .null, .null, .null])), (qa_1, .inl (cA, 34, .inl (fun _ => 0))), (qa_2, .inl (cA, 4096, .inl (fun _ => 0))), (qo_3, .inr (1, [.ref qa_1, .ref qa_4, .ref qb_5, .ref qc_6, .ref qd_7])), (qa_4, .inl (cA, 64, .inl (fun _ => 0))), (qb_5, .inl (cA, 16, .inl (fun _ => 0))), (qc_6, .inl (cA, 900, .inl (fun _ => 0))), (qd_7, .inl (cA, 200, .inl (fun _ => 0))), (qo_8, .inr (3, [.ref qe_9, .int 0, .int 0])), (qe_9, .inl (cA, 10752, .inl (fun _ => 0))), (qo_10, .inr (4, [.ref qa_1, .ref qa_2, .ref qo_3, .ref qo_8, .ref qc_11, .int 0, .int 0])), (qc_11, .inl (cA, 257, .inl (fun _ => 0))), (qo_12, .inr (6, [.ref qp_13, .int 0])), (qp_13, .inl (cA, 16, .inl (fun _ => 0)))] rfl dX8_init_82 (fun H locs hP hD hS => ?_)
  refine lv_aload_n hx hb dX8_init_85 rfl (lv_at hl 0 rfl) ?_
  refine k_new (C := RX7) (T := TX7) (N := 9) (ci := 7) (fs := [.null, .int 0, .int 0, .int 0, .int 0, .int 0, .int 0, .int 0, .int 0]) X hE hP hD hS hA rfl iX7 tyX7 tyX7_ok (fun j hj => by rcases (show j = 0 ∨ j = 1 ∨ j = 2 ∨ j = 3 ∨ j = 4 ∨ j = 5 ∨ j = 6 ∨ j = 7 ∨ j = 8 by omega) with rfl | rfl | rfl | rfl | rfl | rfl | rfl | rfl | rfl <;> rfl) w_91 w_92 w_93 (by decide) (by decide) dX8_init_86 (fun qo_14 H hP hD hS => ?_)
  have hP : va_P D classes [(h0, .inr (8, [.ref qa_1, .ref qa_2, .ref qo_3, .ref qo_8, .ref qo_10, .ref qo_12, .null, .null, .null])), (qa_1, .inl (cA, 34, .inl (fun _ => 0))), (qa_2, .inl (cA, 4096, .inl (fun _ => 0))), (qo_3, .inr (1, [.ref qa_1, .ref qa_4, .ref qb_5, .ref qc_6, .ref qd_7])), (qa_4, .inl (cA, 64, .inl (fun _ => 0))), (qb_5, .inl (cA, 16, .inl (fun _ => 0))), (qc_6, .inl (cA, 900, .inl (fun _ => 0))), (qd_7, .inl (cA, 200, .inl (fun _ => 0))), (qo_8, .inr (3, [.ref qe_9, .int 0, .int 0])), (qe_9, .inl (cA, 10752, .inl (fun _ => 0))), (qo_10, .inr (4, [.ref qa_1, .ref qa_2, .ref qo_3, .ref qo_8, .ref qc_11, .int 0, .int 0])), (qc_11, .inl (cA, 257, .inl (fun _ => 0))), (qo_12, .inr (6, [.ref qp_13, .int 0])), (qp_13, .inl (cA, 16, .inl (fun _ => 0))), (qo_14, .inr (7, [.null, .int 0, .int 0, .int 0, .int 0, .int 0, .int 0, .int 0, .int 0]))] H := hP
  have hD : va_D A [(h0, .inr (8, [.ref qa_1, .ref qa_2, .ref qo_3, .ref qo_8, .ref qo_10, .ref qo_12, .null, .null, .null])), (qa_1, .inl (cA, 34, .inl (fun _ => 0))), (qa_2, .inl (cA, 4096, .inl (fun _ => 0))), (qo_3, .inr (1, [.ref qa_1, .ref qa_4, .ref qb_5, .ref qc_6, .ref qd_7])), (qa_4, .inl (cA, 64, .inl (fun _ => 0))), (qb_5, .inl (cA, 16, .inl (fun _ => 0))), (qc_6, .inl (cA, 900, .inl (fun _ => 0))), (qd_7, .inl (cA, 200, .inl (fun _ => 0))), (qo_8, .inr (3, [.ref qe_9, .int 0, .int 0])), (qe_9, .inl (cA, 10752, .inl (fun _ => 0))), (qo_10, .inr (4, [.ref qa_1, .ref qa_2, .ref qo_3, .ref qo_8, .ref qc_11, .int 0, .int 0])), (qc_11, .inl (cA, 257, .inl (fun _ => 0))), (qo_12, .inr (6, [.ref qp_13, .int 0])), (qp_13, .inl (cA, 16, .inl (fun _ => 0))), (qo_14, .inr (7, [.null, .int 0, .int 0, .int 0, .int 0, .int 0, .int 0, .int 0, .int 0]))] := hD
  refine lv_dup hx hb dX8_init_89 rfl ?_
  refine kINv (n3 := 0) (As := []) (rest := [.ref qo_14, .ref h0]) X hl.1 hE hP hD hS hA [(qo_14, .inr (7, [.null, .int 0, .int 0, .int 0, .int 0, .int 0, .int 0, .int 0, .int 0]))] [(h0, .inr (8, [.ref qa_1, .ref qa_2, .ref qo_3, .ref qo_8, .ref qo_10, .ref qo_12, .null, .null, .null])), (qa_1, .inl (cA, 34, .inl (fun _ => 0))), (qa_2, .inl (cA, 4096, .inl (fun _ => 0))), (qo_3, .inr (1, [.ref qa_1, .ref qa_4, .ref qb_5, .ref qc_6, .ref qd_7])), (qa_4, .inl (cA, 64, .inl (fun _ => 0))), (qb_5, .inl (cA, 16, .inl (fun _ => 0))), (qc_6, .inl (cA, 900, .inl (fun _ => 0))), (qd_7, .inl (cA, 200, .inl (fun _ => 0))), (qo_8, .inr (3, [.ref qe_9, .int 0, .int 0])), (qe_9, .inl (cA, 10752, .inl (fun _ => 0))), (qo_10, .inr (4, [.ref qa_1, .ref qa_2, .ref qo_3, .ref qo_8, .ref qc_11, .int 0, .int 0])), (qc_11, .inl (cA, 257, .inl (fun _ => 0))), (qo_12, .inr (6, [.ref qp_13, .int 0])), (qp_13, .inl (cA, 16, .inl (fun _ => 0)))] [14] [0, 1, 2, 3, 4, 5, 6, 7, 8, 9, 10, 11, 12, 13] rfl rfl rfl (by decide) (by decide) (by decide) (c_Tape_init l D cA cB qo_14 ) w_94 w_93 nw_10 w_95 rfl (by decide +kernel) rfl rfl (Nat.le_of_ble_eq_true rfl) ⟨(Nat.le_of_ble_eq_true rfl), (Nat.le_of_ble_eq_true rfl)⟩ ⟨(Nat.le_of_ble_eq_true rfl), (Nat.le_of_ble_eq_true rfl)⟩ dX8_init_90 (fun W1 H locs hw hP hD hS => ?_)
  obtain ⟨qb_15, rfl⟩ := hw
  have hP : va_P D classes [(h0, .inr (8, [.ref qa_1, .ref qa_2, .ref qo_3, .ref qo_8, .ref qo_10, .ref qo_12, .null, .null, .null])), (qa_1, .inl (cA, 34, .inl (fun _ => 0))), (qa_2, .inl (cA, 4096, .inl (fun _ => 0))), (qo_3, .inr (1, [.ref qa_1, .ref qa_4, .ref qb_5, .ref qc_6, .ref qd_7])), (qa_4, .inl (cA, 64, .inl (fun _ => 0))), (qb_5, .inl (cA, 16, .inl (fun _ => 0))), (qc_6, .inl (cA, 900, .inl (fun _ => 0))), (qd_7, .inl (cA, 200, .inl (fun _ => 0))), (qo_8, .inr (3, [.ref qe_9, .int 0, .int 0])), (qe_9, .inl (cA, 10752, .inl (fun _ => 0))), (qo_10, .inr (4, [.ref qa_1, .ref qa_2, .ref qo_3, .ref qo_8, .ref qc_11, .int 0, .int 0])), (qc_11, .inl (cA, 257, .inl (fun _ => 0))), (qo_12, .inr (6, [.ref qp_13, .int 0])), (qp_13, .inl (cA, 16, .inl (fun _ => 0))), (qo_14, .inr (7, [.ref qb_15, .int 0, .int 0, .int 0, .int 0, .int 0, .int 0, .int 0, .int 0])), (qb_15, .inl (cA, 6000, .inl (fun _ => 0)))] H := hP
  have hD : va_D A [(h0, .inr (8, [.ref qa_1, .ref qa_2, .ref qo_3, .ref qo_8, .ref qo_10, .ref qo_12, .null, .null, .null])), (qa_1, .inl (cA, 34, .inl (fun _ => 0))), (qa_2, .inl (cA, 4096, .inl (fun _ => 0))), (qo_3, .inr (1, [.ref qa_1, .ref qa_4, .ref qb_5, .ref qc_6, .ref qd_7])), (qa_4, .inl (cA, 64, .inl (fun _ => 0))), (qb_5, .inl (cA, 16, .inl (fun _ => 0))), (qc_6, .inl (cA, 900, .inl (fun _ => 0))), (qd_7, .inl (cA, 200, .inl (fun _ => 0))), (qo_8, .inr (3, [.ref qe_9, .int 0, .int 0])), (qe_9, .inl (cA, 10752, .inl (fun _ => 0))), (qo_10, .inr (4, [.ref qa_1, .ref qa_2, .ref qo_3, .ref qo_8, .ref qc_11, .int 0, .int 0])), (qc_11, .inl (cA, 257, .inl (fun _ => 0))), (qo_12, .inr (6, [.ref qp_13, .int 0])), (qp_13, .inl (cA, 16, .inl (fun _ => 0))), (qo_14, .inr (7, [.ref qb_15, .int 0, .int 0, .int 0, .int 0, .int 0, .int 0, .int 0, .int 0])), (qb_15, .inl (cA, 6000, .inl (fun _ => 0)))] := hD
  refine k_putF (C := RX8) (T := TX8) (N := 9) (ci := 8) (v := .ref qo_14) (ty := (.object "BelfryBox$Tape")) X hE hP hD hS 0 rfl rfl iX8 tyX8 tyX8_ok nmX8 6 (by decide) w_96 rfl hnm rfl (by decide +kernel) rfl rfl (Nat.le_of_ble_eq_true rfl) [(h0, .inr (8, [.ref qa_1, .ref qa_2, .ref qo_3, .ref qo_8, .ref qo_10, .ref qo_12, .ref qo_14, .null, .null])), (qa_1, .inl (cA, 34, .inl (fun _ => 0))), (qa_2, .inl (cA, 4096, .inl (fun _ => 0))), (qo_3, .inr (1, [.ref qa_1, .ref qa_4, .ref qb_5, .ref qc_6, .ref qd_7])), (qa_4, .inl (cA, 64, .inl (fun _ => 0))), (qb_5, .inl (cA, 16, .inl (fun _ => 0))), (qc_6, .inl (cA, 900, .inl (fun _ => 0))), (qd_7, .inl (cA, 200, .inl (fun _ => 0))), (qo_8, .inr (3, [.ref qe_9, .int 0, .int 0])), (qe_9, .inl (cA, 10752, .inl (fun _ => 0))), (qo_10, .inr (4, [.ref qa_1, .ref qa_2, .ref qo_3, .ref qo_8, .ref qc_11, .int 0, .int 0])), (qc_11, .inl (cA, 257, .inl (fun _ => 0))), (qo_12, .inr (6, [.ref qp_13, .int 0])), (qp_13, .inl (cA, 16, .inl (fun _ => 0))), (qo_14, .inr (7, [.ref qb_15, .int 0, .int 0, .int 0, .int 0, .int 0, .int 0, .int 0, .int 0])), (qb_15, .inl (cA, 6000, .inl (fun _ => 0)))] rfl dX8_init_93 (fun H locs hP hD hS => ?_)
  refine lv_aload_n hx hb dX8_init_96 rfl (lv_at hl 0 rfl) ?_
  refine k_new (C := RX0) (T := TX0) (N := 18) (ci := 0) (fs := [.null, .null, .null, .null, .int 0, .int 0, .int 0, .int 0, .int 0, .int 0, .int 0, .int 0, .int 0, .int 0, .int 0, .int 0, .int 0, .int 0]) X hE hP hD hS hA rfl iX0 tyX0 tyX0_ok (fun j hj => by rcases (show j = 0 ∨ j = 1 ∨ j = 2 ∨ j = 3 ∨ j = 4 ∨ j = 5 ∨ j = 6 ∨ j = 7 ∨ j = 8 ∨ j = 9 ∨ j = 10 ∨ j = 11 ∨ j = 12 ∨ j = 13 ∨ j = 14 ∨ j = 15 ∨ j = 16 ∨ j = 17 by omega) with rfl | rfl | rfl | rfl | rfl | rfl | rfl | rfl | rfl | rfl | rfl | rfl | rfl | rfl | rfl | rfl | rfl | rfl <;> rfl) w_97 w_98 w_99 (by decide) (by decide) dX8_init_97 (fun qo_16 H hP hD hS => ?_)
  have hP : va_P D classes [(h0, .inr (8, [.ref qa_1, .ref qa_2, .ref qo_3, .ref qo_8, .ref qo_10, .ref qo_12, .ref qo_14, .null, .null])), (qa_1, .inl (cA, 34, .inl (fun _ => 0))), (qa_2, .inl (cA, 4096, .inl (fun _ => 0))), (qo_3, .inr (1, [.ref qa_1, .ref qa_4, .ref qb_5, .ref qc_6, .ref qd_7])), (qa_4, .inl (cA, 64, .inl (fun _ => 0))), (qb_5, .inl (cA, 16, .inl (fun _ => 0))), (qc_6, .inl (cA, 900, .inl (fun _ => 0))), (qd_7, .inl (cA, 200, .inl (fun _ => 0))), (qo_8, .inr (3, [.ref qe_9, .int 0, .int 0])), (qe_9, .inl (cA, 10752, .inl (fun _ => 0))), (qo_10, .inr (4, [.ref qa_1, .ref qa_2, .ref qo_3, .ref qo_8, .ref qc_11, .int 0, .int 0])), (qc_11, .inl (cA, 257, .inl (fun _ => 0))), (qo_12, .inr (6, [.ref qp_13, .int 0])), (qp_13, .inl (cA, 16, .inl (fun _ => 0))), (qo_14, .inr (7, [.ref qb_15, .int 0, .int 0, .int 0, .int 0, .int 0, .int 0, .int 0, .int 0])), (qb_15, .inl (cA, 6000, .inl (fun _ => 0))), (qo_16, .inr (0, [.null, .null, .null, .null, .int 0, .int 0, .int 0, .int 0, .int 0, .int 0, .int 0, .int 0, .int 0, .int 0, .int 0, .int 0, .int 0, .int 0]))] H := hP
  have hD : va_D A [(h0, .inr (8, [.ref qa_1, .ref qa_2, .ref qo_3, .ref qo_8, .ref qo_10, .ref qo_12, .ref qo_14, .null, .null])), (qa_1, .inl (cA, 34, .inl (fun _ => 0))), (qa_2, .inl (cA, 4096, .inl (fun _ => 0))), (qo_3, .inr (1, [.ref qa_1, .ref qa_4, .ref qb_5, .ref qc_6, .ref qd_7])), (qa_4, .inl (cA, 64, .inl (fun _ => 0))), (qb_5, .inl (cA, 16, .inl (fun _ => 0))), (qc_6, .inl (cA, 900, .inl (fun _ => 0))), (qd_7, .inl (cA, 200, .inl (fun _ => 0))), (qo_8, .inr (3, [.ref qe_9, .int 0, .int 0])), (qe_9, .inl (cA, 10752, .inl (fun _ => 0))), (qo_10, .inr (4, [.ref qa_1, .ref qa_2, .ref qo_3, .ref qo_8, .ref qc_11, .int 0, .int 0])), (qc_11, .inl (cA, 257, .inl (fun _ => 0))), (qo_12, .inr (6, [.ref qp_13, .int 0])), (qp_13, .inl (cA, 16, .inl (fun _ => 0))), (qo_14, .inr (7, [.ref qb_15, .int 0, .int 0, .int 0, .int 0, .int 0, .int 0, .int 0, .int 0])), (qb_15, .inl (cA, 6000, .inl (fun _ => 0))), (qo_16, .inr (0, [.null, .null, .null, .null, .int 0, .int 0, .int 0, .int 0, .int 0, .int 0, .int 0, .int 0, .int 0, .int 0, .int 0, .int 0, .int 0, .int 0]))] := hD
  refine lv_dup hx hb dX8_init_100 rfl ?_
  refine lv_aload_n hx hb dX8_init_101 rfl (lv_at hl 0 rfl) ?_
  refine k_get (C := RX8) (T := TX8) (N := 9) (ci := 8) (v := .ref qo_14) X hE hP 0 rfl rfl iX8 6 (by decide) w_96 rfl dX8_init_102 ?_
  refine kIv (n3 := 1) (As := [.ref qo_14]) (rest := [.ref qo_16, .ref h0]) X hl.1 hE hP hD hS hA [(qo_16, .inr (0, [.null, .null, .null, .null, .int 0, .int 0, .int 0, .int 0, .int 0, .int 0, .int 0, .int 0, .int 0, .int 0, .int 0, .int 0, .int 0, .int 0]))] [(h0, .inr (8, [.ref qa_1, .ref qa_2, .ref qo_3, .ref qo_8, .ref qo_10, .ref qo_12, .ref qo_14, .null, .null])), (qa_1, .inl (cA, 34, .inl (fun _ => 0))), (qa_2, .inl (cA, 4096, .inl (fun _ => 0))), (qo_3, .inr (1, [.ref qa_1, .ref qa_4, .ref qb_5, .ref qc_6, .ref qd_7])), (qa_4, .inl (cA, 64, .inl (fun _ => 0))), (qb_5, .inl (cA, 16, .inl (fun _ => 0))), (qc_6, .inl (cA, 900, .inl (fun _ => 0))), (qd_7, .inl (cA, 200, .inl (fun _ => 0))), (qo_8, .inr (3, [.ref qe_9, .int 0, .int 0])), (qe_9, .inl (cA, 10752, .inl (fun _ => 0))), (qo_10, .inr (4, [.ref qa_1, .ref qa_2, .ref qo_3, .ref qo_8, .ref qc_11, .int 0, .int 0])), (qc_11, .inl (cA, 257, .inl (fun _ => 0))), (qo_12, .inr (6, [.ref qp_13, .int 0])), (qp_13, .inl (cA, 16, .inl (fun _ => 0))), (qo_14, .inr (7, [.ref qb_15, .int 0, .int 0, .int 0, .int 0, .int 0, .int 0, .int 0, .int 0])), (qb_15, .inl (cA, 6000, .inl (fun _ => 0)))] [16] [0, 1, 2, 3, 4, 5, 6, 7, 8, 9, 10, 11, 12, 13, 14, 15] rfl rfl rfl (by decide) (by decide) (by decide) (c_Assembler_init l D cA cB qo_16 qo_14 ) w_101 w_99 w_100 w_102 rfl (by decide +kernel) rfl rfl (Nat.le_of_ble_eq_true rfl) ⟨(Nat.le_of_ble_eq_true rfl), (Nat.le_of_ble_eq_true rfl)⟩ ⟨(Nat.le_of_ble_eq_true rfl), (Nat.le_of_ble_eq_true rfl)⟩ dX8_init_105 (fun W1 H locs hw hP hD hS => ?_)
  obtain ⟨qi_17, qt_18, qs_19, qta_20, qtb_21, qtc_22, qtd_23, qsa_24, qsb_25, qsc_26, qsd_27, rfl⟩ := hw
  have hP : va_P D classes [(h0, .inr (8, [.ref qa_1, .ref qa_2, .ref qo_3, .ref qo_8, .ref qo_10, .ref qo_12, .ref qo_14, .null, .null])), (qa_1, .inl (cA, 34, .inl (fun _ => 0))), (qa_2, .inl (cA, 4096, .inl (fun _ => 0))), (qo_3, .inr (1, [.ref qa_1, .ref qa_4, .ref qb_5, .ref qc_6, .ref qd_7])), (qa_4, .inl (cA, 64, .inl (fun _ => 0))), (qb_5, .inl (cA, 16, .inl (fun _ => 0))), (qc_6, .inl (cA, 900, .inl (fun _ => 0))), (qd_7, .inl (cA, 200, .inl (fun _ => 0))), (qo_8, .inr (3, [.ref qe_9, .int 0, .int 0])), (qe_9, .inl (cA, 10752, .inl (fun _ => 0))), (qo_10, .inr (4, [.ref qa_1, .ref qa_2, .ref qo_3, .ref qo_8, .ref qc_11, .int 0, .int 0])), (qc_11, .inl (cA, 257, .inl (fun _ => 0))), (qo_12, .inr (6, [.ref qp_13, .int 0])), (qp_13, .inl (cA, 16, .inl (fun _ => 0))), (qo_14, .inr (7, [.ref qb_15, .int 0, .int 0, .int 0, .int 0, .int 0, .int 0, .int 0, .int 0])), (qb_15, .inl (cA, 6000, .inl (fun _ => 0))), (qo_16, .inr (0, [.ref qo_14, .ref qi_17, .ref qt_18, .ref qs_19, .int (-1), .int (-1), .int 0, .int 0, .int 0, .int 0, .int 0, .int 0, .int 0, .int 0, .int 0, .int 0, .int 0, .int 0])), (qi_17, .inl (cA, 4096, .inl (fun _ => 0))), (qt_18, .inr (2, [.ref qta_20, .ref qtb_21, .ref qtc_22, .ref qtd_23, .int 0])), (qta_20, .inl (cA, 60, .inl (fun _ => 0))), (qtb_21, .inl (cA, 60, .inl (fun _ => 0))), (qtc_22, .inl (cA, 60, .inl (fun _ => 0))), (qtd_23, .inl (cA, 60, .inl (fun _ => 0))), (qs_19, .inr (2, [.ref qsa_24, .ref qsb_25, .ref qsc_26, .ref qsd_27, .int 0])), (qsa_24, .inl (cA, 60, .inl (fun _ => 0))), (qsb_25, .inl (cA, 60, .inl (fun _ => 0))), (qsc_26, .inl (cA, 60, .inl (fun _ => 0))), (qsd_27, .inl (cA, 60, .inl (fun _ => 0)))] H := hP
  have hD : va_D A [(h0, .inr (8, [.ref qa_1, .ref qa_2, .ref qo_3, .ref qo_8, .ref qo_10, .ref qo_12, .ref qo_14, .null, .null])), (qa_1, .inl (cA, 34, .inl (fun _ => 0))), (qa_2, .inl (cA, 4096, .inl (fun _ => 0))), (qo_3, .inr (1, [.ref qa_1, .ref qa_4, .ref qb_5, .ref qc_6, .ref qd_7])), (qa_4, .inl (cA, 64, .inl (fun _ => 0))), (qb_5, .inl (cA, 16, .inl (fun _ => 0))), (qc_6, .inl (cA, 900, .inl (fun _ => 0))), (qd_7, .inl (cA, 200, .inl (fun _ => 0))), (qo_8, .inr (3, [.ref qe_9, .int 0, .int 0])), (qe_9, .inl (cA, 10752, .inl (fun _ => 0))), (qo_10, .inr (4, [.ref qa_1, .ref qa_2, .ref qo_3, .ref qo_8, .ref qc_11, .int 0, .int 0])), (qc_11, .inl (cA, 257, .inl (fun _ => 0))), (qo_12, .inr (6, [.ref qp_13, .int 0])), (qp_13, .inl (cA, 16, .inl (fun _ => 0))), (qo_14, .inr (7, [.ref qb_15, .int 0, .int 0, .int 0, .int 0, .int 0, .int 0, .int 0, .int 0])), (qb_15, .inl (cA, 6000, .inl (fun _ => 0))), (qo_16, .inr (0, [.ref qo_14, .ref qi_17, .ref qt_18, .ref qs_19, .int (-1), .int (-1), .int 0, .int 0, .int 0, .int 0, .int 0, .int 0, .int 0, .int 0, .int 0, .int 0, .int 0, .int 0])), (qi_17, .inl (cA, 4096, .inl (fun _ => 0))), (qt_18, .inr (2, [.ref qta_20, .ref qtb_21, .ref qtc_22, .ref qtd_23, .int 0])), (qta_20, .inl (cA, 60, .inl (fun _ => 0))), (qtb_21, .inl (cA, 60, .inl (fun _ => 0))), (qtc_22, .inl (cA, 60, .inl (fun _ => 0))), (qtd_23, .inl (cA, 60, .inl (fun _ => 0))), (qs_19, .inr (2, [.ref qsa_24, .ref qsb_25, .ref qsc_26, .ref qsd_27, .int 0])), (qsa_24, .inl (cA, 60, .inl (fun _ => 0))), (qsb_25, .inl (cA, 60, .inl (fun _ => 0))), (qsc_26, .inl (cA, 60, .inl (fun _ => 0))), (qsd_27, .inl (cA, 60, .inl (fun _ => 0)))] := hD
  refine k_putF (C := RX8) (T := TX8) (N := 9) (ci := 8) (v := .ref qo_16) (ty := (.object "BelfryBox$Assembler")) X hE hP hD hS 0 rfl rfl iX8 tyX8 tyX8_ok nmX8 7 (by decide) w_103 rfl hnm rfl (by decide +kernel) rfl rfl (Nat.le_of_ble_eq_true rfl) [(h0, .inr (8, [.ref qa_1, .ref qa_2, .ref qo_3, .ref qo_8, .ref qo_10, .ref qo_12, .ref qo_14, .ref qo_16, .null])), (qa_1, .inl (cA, 34, .inl (fun _ => 0))), (qa_2, .inl (cA, 4096, .inl (fun _ => 0))), (qo_3, .inr (1, [.ref qa_1, .ref qa_4, .ref qb_5, .ref qc_6, .ref qd_7])), (qa_4, .inl (cA, 64, .inl (fun _ => 0))), (qb_5, .inl (cA, 16, .inl (fun _ => 0))), (qc_6, .inl (cA, 900, .inl (fun _ => 0))), (qd_7, .inl (cA, 200, .inl (fun _ => 0))), (qo_8, .inr (3, [.ref qe_9, .int 0, .int 0])), (qe_9, .inl (cA, 10752, .inl (fun _ => 0))), (qo_10, .inr (4, [.ref qa_1, .ref qa_2, .ref qo_3, .ref qo_8, .ref qc_11, .int 0, .int 0])), (qc_11, .inl (cA, 257, .inl (fun _ => 0))), (qo_12, .inr (6, [.ref qp_13, .int 0])), (qp_13, .inl (cA, 16, .inl (fun _ => 0))), (qo_14, .inr (7, [.ref qb_15, .int 0, .int 0, .int 0, .int 0, .int 0, .int 0, .int 0, .int 0])), (qb_15, .inl (cA, 6000, .inl (fun _ => 0))), (qo_16, .inr (0, [.ref qo_14, .ref qi_17, .ref qt_18, .ref qs_19, .int (-1), .int (-1), .int 0, .int 0, .int 0, .int 0, .int 0, .int 0, .int 0, .int 0, .int 0, .int 0, .int 0, .int 0])), (qi_17, .inl (cA, 4096, .inl (fun _ => 0))), (qt_18, .inr (2, [.ref qta_20, .ref qtb_21, .ref qtc_22, .ref qtd_23, .int 0])), (qta_20, .inl (cA, 60, .inl (fun _ => 0))), (qtb_21, .inl (cA, 60, .inl (fun _ => 0))), (qtc_22, .inl (cA, 60, .inl (fun _ => 0))), (qtd_23, .inl (cA, 60, .inl (fun _ => 0))), (qs_19, .inr (2, [.ref qsa_24, .ref qsb_25, .ref qsc_26, .ref qsd_27, .int 0])), (qsa_24, .inl (cA, 60, .inl (fun _ => 0))), (qsb_25, .inl (cA, 60, .inl (fun _ => 0))), (qsc_26, .inl (cA, 60, .inl (fun _ => 0))), (qsd_27, .inl (cA, 60, .inl (fun _ => 0)))] rfl dX8_init_108 (fun H locs hP hD hS => ?_)
  refine lv_aload_n hx hb dX8_init_111 rfl (lv_at hl 0 rfl) ?_
  refine k_new (C := RX5) (T := TX5) (N := 2) (ci := 5) (fs := [.null, .int 0]) X hE hP hD hS hA rfl iX5 tyX5 tyX5_ok (fun j hj => by rcases (show j = 0 ∨ j = 1 by omega) with rfl | rfl <;> rfl) w_104 w_105 w_106 (by decide) (by decide) dX8_init_112 (fun qo_28 H hP hD hS => ?_)
  have hP : va_P D classes [(h0, .inr (8, [.ref qa_1, .ref qa_2, .ref qo_3, .ref qo_8, .ref qo_10, .ref qo_12, .ref qo_14, .ref qo_16, .null])), (qa_1, .inl (cA, 34, .inl (fun _ => 0))), (qa_2, .inl (cA, 4096, .inl (fun _ => 0))), (qo_3, .inr (1, [.ref qa_1, .ref qa_4, .ref qb_5, .ref qc_6, .ref qd_7])), (qa_4, .inl (cA, 64, .inl (fun _ => 0))), (qb_5, .inl (cA, 16, .inl (fun _ => 0))), (qc_6, .inl (cA, 900, .inl (fun _ => 0))), (qd_7, .inl (cA, 200, .inl (fun _ => 0))), (qo_8, .inr (3, [.ref qe_9, .int 0, .int 0])), (qe_9, .inl (cA, 10752, .inl (fun _ => 0))), (qo_10, .inr (4, [.ref qa_1, .ref qa_2, .ref qo_3, .ref qo_8, .ref qc_11, .int 0, .int 0])), (qc_11, .inl (cA, 257, .inl (fun _ => 0))), (qo_12, .inr (6, [.ref qp_13, .int 0])), (qp_13, .inl (cA, 16, .inl (fun _ => 0))), (qo_14, .inr (7, [.ref qb_15, .int 0, .int 0, .int 0, .int 0, .int 0, .int 0, .int 0, .int 0])), (qb_15, .inl (cA, 6000, .inl (fun _ => 0))), (qo_16, .inr (0, [.ref qo_14, .ref qi_17, .ref qt_18, .ref qs_19, .int (-1), .int (-1), .int 0, .int 0, .int 0, .int 0, .int 0, .int 0, .int 0, .int 0, .int 0, .int 0, .int 0, .int 0])), (qi_17, .inl (cA, 4096, .inl (fun _ => 0))), (qt_18, .inr (2, [.ref qta_20, .ref qtb_21, .ref qtc_22, .ref qtd_23, .int 0])), (qta_20, .inl (cA, 60, .inl (fun _ => 0))), (qtb_21, .inl (cA, 60, .inl (fun _ => 0))), (qtc_22, .inl (cA, 60, .inl (fun _ => 0))), (qtd_23, .inl (cA, 60, .inl (fun _ => 0))), (qs_19, .inr (2, [.ref qsa_24, .ref qsb_25, .ref qsc_26, .ref qsd_27, .int 0])), (qsa_24, .inl (cA, 60, .inl (fun _ => 0))), (qsb_25, .inl (cA, 60, .inl (fun _ => 0))), (qsc_26, .inl (cA, 60, .inl (fun _ => 0))), (qsd_27, .inl (cA, 60, .inl (fun _ => 0))), (qo_28, .inr (5, [.null, .int 0]))] H := hP
  have hD : va_D A [(h0, .inr (8, [.ref qa_1, .ref qa_2, .ref qo_3, .ref qo_8, .ref qo_10, .ref qo_12, .ref qo_14, .ref qo_16, .null])), (qa_1, .inl (cA, 34, .inl (fun _ => 0))), (qa_2, .inl (cA, 4096, .inl (fun _ => 0))), (qo_3, .inr (1, [.ref qa_1, .ref qa_4, .ref qb_5, .ref qc_6, .ref qd_7])), (qa_4, .inl (cA, 64, .inl (fun _ => 0))), (qb_5, .inl (cA, 16, .inl (fun _ => 0))), (qc_6, .inl (cA, 900, .inl (fun _ => 0))), (qd_7, .inl (cA, 200, .inl (fun _ => 0))), (qo_8, .inr (3, [.ref qe_9, .int 0, .int 0])), (qe_9, .inl (cA, 10752, .inl (fun _ => 0))), (qo_10, .inr (4, [.ref qa_1, .ref qa_2, .ref qo_3, .ref qo_8, .ref qc_11, .int 0, .int 0])), (qc_11, .inl (cA, 257, .inl (fun _ => 0))), (qo_12, .inr (6, [.ref qp_13, .int 0])), (qp_13, .inl (cA, 16, .inl (fun _ => 0))), (qo_14, .inr (7, [.ref qb_15, .int 0, .int 0, .int 0, .int 0, .int 0, .int 0, .int 0, .int 0])), (qb_15, .inl (cA, 6000, .inl (fun _ => 0))), (qo_16, .inr (0, [.ref qo_14, .ref qi_17, .ref qt_18, .ref qs_19, .int (-1), .int (-1), .int 0, .int 0, .int 0, .int 0, .int 0, .int 0, .int 0, .int 0, .int 0, .int 0, .int 0, .int 0])), (qi_17, .inl (cA, 4096, .inl (fun _ => 0))), (qt_18, .inr (2, [.ref qta_20, .ref qtb_21, .ref qtc_22, .ref qtd_23, .int 0])), (qta_20, .inl (cA, 60, .inl (fun _ => 0))), (qtb_21, .inl (cA, 60, .inl (fun _ => 0))), (qtc_22, .inl (cA, 60, .inl (fun _ => 0))), (qtd_23, .inl (cA, 60, .inl (fun _ => 0))), (qs_19, .inr (2, [.ref qsa_24, .ref qsb_25, .ref qsc_26, .ref qsd_27, .int 0])), (qsa_24, .inl (cA, 60, .inl (fun _ => 0))), (qsb_25, .inl (cA, 60, .inl (fun _ => 0))), (qsc_26, .inl (cA, 60, .inl (fun _ => 0))), (qsd_27, .inl (cA, 60, .inl (fun _ => 0))), (qo_28, .inr (5, [.null, .int 0]))] := hD
  refine lv_dup hx hb dX8_init_115 rfl ?_
  refine kINv (n3 := 0) (As := []) (rest := [.ref qo_28, .ref h0]) X hl.1 hE hP hD hS hA [(qo_28, .inr (5, [.null, .int 0]))] [(h0, .inr (8, [.ref qa_1, .ref qa_2, .ref qo_3, .ref qo_8, .ref qo_10, .ref qo_12, .ref qo_14, .ref qo_16, .null])), (qa_1, .inl (cA, 34, .inl (fun _ => 0))), (qa_2, .inl (cA, 4096, .inl (fun _ => 0))), (qo_3, .inr (1, [.ref qa_1, .ref qa_4, .ref qb_5, .ref qc_6, .ref qd_7])), (qa_4, .inl (cA, 64, .inl (fun _ => 0))), (qb_5, .inl (cA, 16, .inl (fun _ => 0))), (qc_6, .inl (cA, 900, .inl (fun _ => 0))), (qd_7, .inl (cA, 200, .inl (fun _ => 0))), (qo_8, .inr (3, [.ref qe_9, .int 0, .int 0])), (qe_9, .inl (cA, 10752, .inl (fun _ => 0))), (qo_10, .inr (4, [.ref qa_1, .ref qa_2, .ref qo_3, .ref qo_8, .ref qc_11, .int 0, .int 0])), (qc_11, .inl (cA, 257, .inl (fun _ => 0))), (qo_12, .inr (6, [.ref qp_13, .int 0])), (qp_13, .inl (cA, 16, .inl (fun _ => 0))), (qo_14, .inr (7, [.ref qb_15, .int 0, .int 0, .int 0, .int 0, .int 0, .int 0, .int 0, .int 0])), (qb_15, .inl (cA, 6000, .inl (fun _ => 0))), (qo_16, .inr (0, [.ref qo_14, .ref qi_17, .ref qt_18, .ref qs_19, .int (-1), .int (-1), .int 0, .int 0, .int 0, .int 0, .int 0, .int 0, .int 0, .int 0, .int 0, .int 0, .int 0, .int 0])), (qi_17, .inl (cA, 4096, .inl (fun _ => 0))), (qt_18, .inr (2, [.ref qta_20, .ref qtb_21, .ref qtc_22, .ref qtd_23, .int 0])), (qta_20, .inl (cA, 60, .inl (fun _ => 0))), (qtb_21, .inl (cA, 60, .inl (fun _ => 0))), (qtc_22, .inl (cA, 60, .inl (fun _ => 0))), (qtd_23, .inl (cA, 60, .inl (fun _ => 0))), (qs_19, .inr (2, [.ref qsa_24, .ref qsb_25, .ref qsc_26, .ref qsd_27, .int 0])), (qsa_24, .inl (cA, 60, .inl (fun _ => 0))), (qsb_25, .inl (cA, 60, .inl (fun _ => 0))), (qsc_26, .inl (cA, 60, .inl (fun _ => 0))), (qsd_27, .inl (cA, 60, .inl (fun _ => 0)))] [28] [0, 1, 2, 3, 4, 5, 6, 7, 8, 9, 10, 11, 12, 13, 14, 15, 16, 17, 18, 19, 20, 21, 22, 23, 24, 25, 26, 27] rfl rfl rfl (by decide) (by decide) (by decide) (c_Reader_init l D cA cB qo_28 ) w_107 w_106 nw_28 w_108 rfl (by decide +kernel) rfl rfl (Nat.le_of_ble_eq_true rfl) ⟨(Nat.le_of_ble_eq_true rfl), (Nat.le_of_ble_eq_true rfl)⟩ ⟨(Nat.le_of_ble_eq_true rfl), (Nat.le_of_ble_eq_true rfl)⟩ dX8_init_116 (fun W1 H locs hw hP hD hS => ?_)
  obtain ⟨ql_29, rfl⟩ := hw
  have hP : va_P D classes [(h0, .inr (8, [.ref qa_1, .ref qa_2, .ref qo_3, .ref qo_8, .ref qo_10, .ref qo_12, .ref qo_14, .ref qo_16, .null])), (qa_1, .inl (cA, 34, .inl (fun _ => 0))), (qa_2, .inl (cA, 4096, .inl (fun _ => 0))), (qo_3, .inr (1, [.ref qa_1, .ref qa_4, .ref qb_5, .ref qc_6, .ref qd_7])), (qa_4, .inl (cA, 64, .inl (fun _ => 0))), (qb_5, .inl (cA, 16, .inl (fun _ => 0))), (qc_6, .inl (cA, 900, .inl (fun _ => 0))), (qd_7, .inl (cA, 200, .inl (fun _ => 0))), (qo_8, .inr (3, [.ref qe_9, .int 0, .int 0])), (qe_9, .inl (cA, 10752, .inl (fun _ => 0))), (qo_10, .inr (4, [.ref qa_1, .ref qa_2, .ref qo_3, .ref qo_8, .ref qc_11, .int 0, .int 0])), (qc_11, .inl (cA, 257, .inl (fun _ => 0))), (qo_12, .inr (6, [.ref qp_13, .int 0])), (qp_13, .inl (cA, 16, .inl (fun _ => 0))), (qo_14, .inr (7, [.ref qb_15, .int 0, .int 0, .int 0, .int 0, .int 0, .int 0, .int 0, .int 0])), (qb_15, .inl (cA, 6000, .inl (fun _ => 0))), (qo_16, .inr (0, [.ref qo_14, .ref qi_17, .ref qt_18, .ref qs_19, .int (-1), .int (-1), .int 0, .int 0, .int 0, .int 0, .int 0, .int 0, .int 0, .int 0, .int 0, .int 0, .int 0, .int 0])), (qi_17, .inl (cA, 4096, .inl (fun _ => 0))), (qt_18, .inr (2, [.ref qta_20, .ref qtb_21, .ref qtc_22, .ref qtd_23, .int 0])), (qta_20, .inl (cA, 60, .inl (fun _ => 0))), (qtb_21, .inl (cA, 60, .inl (fun _ => 0))), (qtc_22, .inl (cA, 60, .inl (fun _ => 0))), (qtd_23, .inl (cA, 60, .inl (fun _ => 0))), (qs_19, .inr (2, [.ref qsa_24, .ref qsb_25, .ref qsc_26, .ref qsd_27, .int 0])), (qsa_24, .inl (cA, 60, .inl (fun _ => 0))), (qsb_25, .inl (cA, 60, .inl (fun _ => 0))), (qsc_26, .inl (cA, 60, .inl (fun _ => 0))), (qsd_27, .inl (cA, 60, .inl (fun _ => 0))), (qo_28, .inr (5, [.ref ql_29, .int 0])), (ql_29, .inl (cA, 16, .inl (fun _ => 0)))] H := hP
  have hD : va_D A [(h0, .inr (8, [.ref qa_1, .ref qa_2, .ref qo_3, .ref qo_8, .ref qo_10, .ref qo_12, .ref qo_14, .ref qo_16, .null])), (qa_1, .inl (cA, 34, .inl (fun _ => 0))), (qa_2, .inl (cA, 4096, .inl (fun _ => 0))), (qo_3, .inr (1, [.ref qa_1, .ref qa_4, .ref qb_5, .ref qc_6, .ref qd_7])), (qa_4, .inl (cA, 64, .inl (fun _ => 0))), (qb_5, .inl (cA, 16, .inl (fun _ => 0))), (qc_6, .inl (cA, 900, .inl (fun _ => 0))), (qd_7, .inl (cA, 200, .inl (fun _ => 0))), (qo_8, .inr (3, [.ref qe_9, .int 0, .int 0])), (qe_9, .inl (cA, 10752, .inl (fun _ => 0))), (qo_10, .inr (4, [.ref qa_1, .ref qa_2, .ref qo_3, .ref qo_8, .ref qc_11, .int 0, .int 0])), (qc_11, .inl (cA, 257, .inl (fun _ => 0))), (qo_12, .inr (6, [.ref qp_13, .int 0])), (qp_13, .inl (cA, 16, .inl (fun _ => 0))), (qo_14, .inr (7, [.ref qb_15, .int 0, .int 0, .int 0, .int 0, .int 0, .int 0, .int 0, .int 0])), (qb_15, .inl (cA, 6000, .inl (fun _ => 0))), (qo_16, .inr (0, [.ref qo_14, .ref qi_17, .ref qt_18, .ref qs_19, .int (-1), .int (-1), .int 0, .int 0, .int 0, .int 0, .int 0, .int 0, .int 0, .int 0, .int 0, .int 0, .int 0, .int 0])), (qi_17, .inl (cA, 4096, .inl (fun _ => 0))), (qt_18, .inr (2, [.ref qta_20, .ref qtb_21, .ref qtc_22, .ref qtd_23, .int 0])), (qta_20, .inl (cA, 60, .inl (fun _ => 0))), (qtb_21, .inl (cA, 60, .inl (fun _ => 0))), (qtc_22, .inl (cA, 60, .inl (fun _ => 0))), (qtd_23, .inl (cA, 60, .inl (fun _ => 0))), (qs_19, .inr (2, [.ref qsa_24, .ref qsb_25, .ref qsc_26, .ref qsd_27, .int 0])), (qsa_24, .inl (cA, 60, .inl (fun _ => 0))), (qsb_25, .inl (cA, 60, .inl (fun _ => 0))), (qsc_26, .inl (cA, 60, .inl (fun _ => 0))), (qsd_27, .inl (cA, 60, .inl (fun _ => 0))), (qo_28, .inr (5, [.ref ql_29, .int 0])), (ql_29, .inl (cA, 16, .inl (fun _ => 0)))] := hD
  refine k_putF (C := RX8) (T := TX8) (N := 9) (ci := 8) (v := .ref qo_28) (ty := (.object "BelfryBox$Reader")) X hE hP hD hS 0 rfl rfl iX8 tyX8 tyX8_ok nmX8 8 (by decide) w_109 rfl hnm rfl (by decide +kernel) rfl rfl (Nat.le_of_ble_eq_true rfl) [(h0, .inr (8, [.ref qa_1, .ref qa_2, .ref qo_3, .ref qo_8, .ref qo_10, .ref qo_12, .ref qo_14, .ref qo_16, .ref qo_28])), (qa_1, .inl (cA, 34, .inl (fun _ => 0))), (qa_2, .inl (cA, 4096, .inl (fun _ => 0))), (qo_3, .inr (1, [.ref qa_1, .ref qa_4, .ref qb_5, .ref qc_6, .ref qd_7])), (qa_4, .inl (cA, 64, .inl (fun _ => 0))), (qb_5, .inl (cA, 16, .inl (fun _ => 0))), (qc_6, .inl (cA, 900, .inl (fun _ => 0))), (qd_7, .inl (cA, 200, .inl (fun _ => 0))), (qo_8, .inr (3, [.ref qe_9, .int 0, .int 0])), (qe_9, .inl (cA, 10752, .inl (fun _ => 0))), (qo_10, .inr (4, [.ref qa_1, .ref qa_2, .ref qo_3, .ref qo_8, .ref qc_11, .int 0, .int 0])), (qc_11, .inl (cA, 257, .inl (fun _ => 0))), (qo_12, .inr (6, [.ref qp_13, .int 0])), (qp_13, .inl (cA, 16, .inl (fun _ => 0))), (qo_14, .inr (7, [.ref qb_15, .int 0, .int 0, .int 0, .int 0, .int 0, .int 0, .int 0, .int 0])), (qb_15, .inl (cA, 6000, .inl (fun _ => 0))), (qo_16, .inr (0, [.ref qo_14, .ref qi_17, .ref qt_18, .ref qs_19, .int (-1), .int (-1), .int 0, .int 0, .int 0, .int 0, .int 0, .int 0, .int 0, .int 0, .int 0, .int 0, .int 0, .int 0])), (qi_17, .inl (cA, 4096, .inl (fun _ => 0))), (qt_18, .inr (2, [.ref qta_20, .ref qtb_21, .ref qtc_22, .ref qtd_23, .int 0])), (qta_20, .inl (cA, 60, .inl (fun _ => 0))), (qtb_21, .inl (cA, 60, .inl (fun _ => 0))), (qtc_22, .inl (cA, 60, .inl (fun _ => 0))), (qtd_23, .inl (cA, 60, .inl (fun _ => 0))), (qs_19, .inr (2, [.ref qsa_24, .ref qsb_25, .ref qsc_26, .ref qsd_27, .int 0])), (qsa_24, .inl (cA, 60, .inl (fun _ => 0))), (qsb_25, .inl (cA, 60, .inl (fun _ => 0))), (qsc_26, .inl (cA, 60, .inl (fun _ => 0))), (qsd_27, .inl (cA, 60, .inl (fun _ => 0))), (qo_28, .inr (5, [.ref ql_29, .int 0])), (ql_29, .inl (cA, 16, .inl (fun _ => 0)))] rfl dX8_init_119 (fun H locs hP hD hS => ?_)
  refine lv_aload_n hx hb dX8_init_122 rfl (lv_at hl 0 rfl) ?_
  refine k_get (C := RX8) (T := TX8) (N := 9) (ci := 8) (v := .ref qo_10) X hE hP 0 rfl rfl iX8 4 (by decide) w_84 rfl dX8_init_123 ?_
  refine kVv (n3 := 0) (As := []) (rest := []) X hl.1 hE hP hD hS hA [(qo_10, .inr (4, [.ref qa_1, .ref qa_2, .ref qo_3, .ref qo_8, .ref qc_11, .int 0, .int 0])), (qa_1, .inl (cA, 34, .inl (fun _ => 0))), (qa_2, .inl (cA, 4096, .inl (fun _ => 0))), (qc_11, .inl (cA, 257, .inl (fun _ => 0))), (qo_8, .inr (3, [.ref qe_9, .int 0, .int 0]))] [(h0, .inr (8, [.ref qa_1, .ref qa_2, .ref qo_3, .ref qo_8, .ref qo_10, .ref qo_12, .ref qo_14, .ref qo_16, .ref qo_28])), (qo_3, .inr (1, [.ref qa_1, .ref qa_4, .ref qb_5, .ref qc_6, .ref qd_7])), (qa_4, .inl (cA, 64, .inl (fun _ => 0))), (qb_5, .inl (cA, 16, .inl (fun _ => 0))), (qc_6, .inl (cA, 900, .inl (fun _ => 0))), (qd_7, .inl (cA, 200, .inl (fun _ => 0))), (qe_9, .inl (cA, 10752, .inl (fun _ => 0))), (qo_12, .inr (6, [.ref qp_13, .int 0])), (qp_13, .inl (cA, 16, .inl (fun _ => 0))), (qo_14, .inr (7, [.ref qb_15, .int 0, .int 0, .int 0, .int 0, .int 0, .int 0, .int 0, .int 0])), (qb_15, .inl (cA, 6000, .inl (fun _ => 0))), (qo_16, .inr (0, [.ref qo_14, .ref qi_17, .ref qt_18, .ref qs_19, .int (-1), .int (-1), .int 0, .int 0, .int 0, .int 0, .int 0, .int 0, .int 0, .int 0, .int 0, .int 0, .int 0, .int 0])), (qi_17, .inl (cA, 4096, .inl (fun _ => 0))), (qt_18, .inr (2, [.ref qta_20, .ref qtb_21, .ref qtc_22, .ref qtd_23, .int 0])), (qta_20, .inl (cA, 60, .inl (fun _ => 0))), (qtb_21, .inl (cA, 60, .inl (fun _ => 0))), (qtc_22, .inl (cA, 60, .inl (fun _ => 0))), (qtd_23, .inl (cA, 60, .inl (fun _ => 0))), (qs_19, .inr (2, [.ref qsa_24, .ref qsb_25, .ref qsc_26, .ref qsd_27, .int 0])), (qsa_24, .inl (cA, 60, .inl (fun _ => 0))), (qsb_25, .inl (cA, 60, .inl (fun _ => 0))), (qsc_26, .inl (cA, 60, .inl (fun _ => 0))), (qsd_27, .inl (cA, 60, .inl (fun _ => 0))), (qo_28, .inr (5, [.ref ql_29, .int 0])), (ql_29, .inl (cA, 16, .inl (fun _ => 0)))] [10, 1, 2, 11, 8] [0, 3, 4, 5, 6, 7, 9, 12, 13, 14, 15, 16, 17, 18, 19, 20, 21, 22, 23, 24, 25, 26, 27, 28, 29] rfl rfl rfl (by decide) (by decide) (by decide) (c_beginAnew l D cA cB qo_10 qa_1 qa_2 qo_3 qo_8 qc_11 0 0 qe_9 0 0 (fun _ => 0) (fun _ => 0) (fun _ => 0) ) w_111 w_44 w_110 w_112 w_113 0 (ci := 4) (T := TX4) (N := 7) rfl rfl (by decide +kernel) rfl rfl (Nat.le_of_ble_eq_true rfl) ⟨(Nat.le_of_ble_eq_true rfl), (Nat.le_of_ble_eq_true rfl)⟩ ⟨(Nat.le_of_ble_eq_true rfl), (Nat.le_of_ble_eq_true rfl)⟩ dX8_init_126 (fun W1 H locs hw hP hD hS => ?_)
  obtain ⟨g_30, g2_31, hf_32, hf_33, rfl⟩ := hw
  have hP : va_P D classes [(h0, .inr (8, [.ref qa_1, .ref qa_2, .ref qo_3, .ref qo_8, .ref qo_10, .ref qo_12, .ref qo_14, .ref qo_16, .ref qo_28])), (qo_3, .inr (1, [.ref qa_1, .ref qa_4, .ref qb_5, .ref qc_6, .ref qd_7])), (qa_4, .inl (cA, 64, .inl (fun _ => 0))), (qb_5, .inl (cA, 16, .inl (fun _ => 0))), (qc_6, .inl (cA, 900, .inl (fun _ => 0))), (qd_7, .inl (cA, 200, .inl (fun _ => 0))), (qe_9, .inl (cA, 10752, .inl (fun _ => 0))), (qo_12, .inr (6, [.ref qp_13, .int 0])), (qp_13, .inl (cA, 16, .inl (fun _ => 0))), (qo_14, .inr (7, [.ref qb_15, .int 0, .int 0, .int 0, .int 0, .int 0, .int 0, .int 0, .int 0])), (qb_15, .inl (cA, 6000, .inl (fun _ => 0))), (qo_16, .inr (0, [.ref qo_14, .ref qi_17, .ref qt_18, .ref qs_19, .int (-1), .int (-1), .int 0, .int 0, .int 0, .int 0, .int 0, .int 0, .int 0, .int 0, .int 0, .int 0, .int 0, .int 0])), (qi_17, .inl (cA, 4096, .inl (fun _ => 0))), (qt_18, .inr (2, [.ref qta_20, .ref qtb_21, .ref qtc_22, .ref qtd_23, .int 0])), (qta_20, .inl (cA, 60, .inl (fun _ => 0))), (qtb_21, .inl (cA, 60, .inl (fun _ => 0))), (qtc_22, .inl (cA, 60, .inl (fun _ => 0))), (qtd_23, .inl (cA, 60, .inl (fun _ => 0))), (qs_19, .inr (2, [.ref qsa_24, .ref qsb_25, .ref qsc_26, .ref qsd_27, .int 0])), (qsa_24, .inl (cA, 60, .inl (fun _ => 0))), (qsb_25, .inl (cA, 60, .inl (fun _ => 0))), (qsc_26, .inl (cA, 60, .inl (fun _ => 0))), (qsd_27, .inl (cA, 60, .inl (fun _ => 0))), (qo_28, .inr (5, [.ref ql_29, .int 0])), (ql_29, .inl (cA, 16, .inl (fun _ => 0))), (qo_10, .inr (4, [.ref qa_1, .ref qa_2, .ref qo_3, .ref qo_8, .ref qc_11, .int 0, .int 0])), (qa_1, .inl (cA, 34, .inl (upd (upd (upd (upd (upd (upd (upd (upd g_30 18 1) 0 0) 1 0) 2 0) 3 255) 5 4) 4 ((((fun _ => 0) 4078) + (256 * ((fun _ => 0) 4079))) &&& 4095)) 6 0))), (qa_2, .inl (cA, 4096, .inl (fun _ => 0))), (qc_11, .inl (cA, 257, .inl g2_31)), (qo_8, .inr (3, [.ref qe_9, .int 0, .int 0]))] H := hP
  have hD : va_D A [(h0, .inr (8, [.ref qa_1, .ref qa_2, .ref qo_3, .ref qo_8, .ref qo_10, .ref qo_12, .ref qo_14, .ref qo_16, .ref qo_28])), (qo_3, .inr (1, [.ref qa_1, .ref qa_4, .ref qb_5, .ref qc_6, .ref qd_7])), (qa_4, .inl (cA, 64, .inl (fun _ => 0))), (qb_5, .inl (cA, 16, .inl (fun _ => 0))), (qc_6, .inl (cA, 900, .inl (fun _ => 0))), (qd_7, .inl (cA, 200, .inl (fun _ => 0))), (qe_9, .inl (cA, 10752, .inl (fun _ => 0))), (qo_12, .inr (6, [.ref qp_13, .int 0])), (qp_13, .inl (cA, 16, .inl (fun _ => 0))), (qo_14, .inr (7, [.ref qb_15, .int 0, .int 0, .int 0, .int 0, .int 0, .int 0, .int 0, .int 0])), (qb_15, .inl (cA, 6000, .inl (fun _ => 0))), (qo_16, .inr (0, [.ref qo_14, .ref qi_17, .ref qt_18, .ref qs_19, .int (-1), .int (-1), .int 0, .int 0, .int 0, .int 0, .int 0, .int 0, .int 0, .int 0, .int 0, .int 0, .int 0, .int 0])), (qi_17, .inl (cA, 4096, .inl (fun _ => 0))), (qt_18, .inr (2, [.ref qta_20, .ref qtb_21, .ref qtc_22, .ref qtd_23, .int 0])), (qta_20, .inl (cA, 60, .inl (fun _ => 0))), (qtb_21, .inl (cA, 60, .inl (fun _ => 0))), (qtc_22, .inl (cA, 60, .inl (fun _ => 0))), (qtd_23, .inl (cA, 60, .inl (fun _ => 0))), (qs_19, .inr (2, [.ref qsa_24, .ref qsb_25, .ref qsc_26, .ref qsd_27, .int 0])), (qsa_24, .inl (cA, 60, .inl (fun _ => 0))), (qsb_25, .inl (cA, 60, .inl (fun _ => 0))), (qsc_26, .inl (cA, 60, .inl (fun _ => 0))), (qsd_27, .inl (cA, 60, .inl (fun _ => 0))), (qo_28, .inr (5, [.ref ql_29, .int 0])), (ql_29, .inl (cA, 16, .inl (fun _ => 0))), (qo_10, .inr (4, [.ref qa_1, .ref qa_2, .ref qo_3, .ref qo_8, .ref qc_11, .int 0, .int 0])), (qa_1, .inl (cA, 34, .inl (upd (upd (upd (upd (upd (upd (upd (upd g_30 18 1) 0 0) 1 0) 2 0) 3 255) 5 4) 4 ((((fun _ => 0) 4078) + (256 * ((fun _ => 0) 4079))) &&& 4095)) 6 0))), (qa_2, .inl (cA, 4096, .inl (fun _ => 0))), (qc_11, .inl (cA, 257, .inl g2_31)), (qo_8, .inr (3, [.ref qe_9, .int 0, .int 0]))] := hD
  have hP : va_P D classes [(h0, .inr (8, [.ref qa_1, .ref qa_2, .ref qo_3, .ref qo_8, .ref qo_10, .ref qo_12, .ref qo_14, .ref qo_16, .ref qo_28])), (qa_1, .inl (cA, 34, .inl (upd (upd (upd (upd (upd (upd (upd (upd g_30 18 1) 0 0) 1 0) 2 0) 3 255) 5 4) 4 ((((fun _ => 0) 4078) + (256 * ((fun _ => 0) 4079))) &&& 4095)) 6 0))), (qa_2, .inl (cA, 4096, .inl (fun _ => 0))), (qo_3, .inr (1, [.ref qa_1, .ref qa_4, .ref qb_5, .ref qc_6, .ref qd_7])), (qa_4, .inl (cA, 64, .inl (fun _ => 0))), (qb_5, .inl (cA, 16, .inl (fun _ => 0))), (qc_6, .inl (cA, 900, .inl (fun _ => 0))), (qd_7, .inl (cA, 200, .inl (fun _ => 0))), (qo_8, .inr (3, [.ref qe_9, .int 0, .int 0])), (qe_9, .inl (cA, 10752, .inl (fun _ => 0))), (qo_10, .inr (4, [.ref qa_1, .ref qa_2, .ref qo_3, .ref qo_8, .ref qc_11, .int 0, .int 0])), (qc_11, .inl (cA, 257, .inl g2_31)), (qo_12, .inr (6, [.ref qp_13, .int 0])), (qp_13, .inl (cA, 16, .inl (fun _ => 0))), (qo_14, .inr (7, [.ref qb_15, .int 0, .int 0, .int 0, .int 0, .int 0, .int 0, .int 0, .int 0])), (qb_15, .inl (cA, 6000, .inl (fun _ => 0))), (qo_16, .inr (0, [.ref qo_14, .ref qi_17, .ref qt_18, .ref qs_19, .int (-1), .int (-1), .int 0, .int 0, .int 0, .int 0, .int 0, .int 0, .int 0, .int 0, .int 0, .int 0, .int 0, .int 0])), (qi_17, .inl (cA, 4096, .inl (fun _ => 0))), (qt_18, .inr (2, [.ref qta_20, .ref qtb_21, .ref qtc_22, .ref qtd_23, .int 0])), (qta_20, .inl (cA, 60, .inl (fun _ => 0))), (qtb_21, .inl (cA, 60, .inl (fun _ => 0))), (qtc_22, .inl (cA, 60, .inl (fun _ => 0))), (qtd_23, .inl (cA, 60, .inl (fun _ => 0))), (qs_19, .inr (2, [.ref qsa_24, .ref qsb_25, .ref qsc_26, .ref qsd_27, .int 0])), (qsa_24, .inl (cA, 60, .inl (fun _ => 0))), (qsb_25, .inl (cA, 60, .inl (fun _ => 0))), (qsc_26, .inl (cA, 60, .inl (fun _ => 0))), (qsd_27, .inl (cA, 60, .inl (fun _ => 0))), (qo_28, .inr (5, [.ref ql_29, .int 0])), (ql_29, .inl (cA, 16, .inl (fun _ => 0)))] _ := hP.sub [0, 26, 27, 1, 2, 3, 4, 5, 29, 6, 25, 28, 7, 8, 9, 10, 11, 12, 13, 14, 15, 16, 17, 18, 19, 20, 21, 22, 23, 24] rfl
  have hD : va_D A [(h0, .inr (8, [.ref qa_1, .ref qa_2, .ref qo_3, .ref qo_8, .ref qo_10, .ref qo_12, .ref qo_14, .ref qo_16, .ref qo_28])), (qa_1, .inl (cA, 34, .inl (upd (upd (upd (upd (upd (upd (upd (upd g_30 18 1) 0 0) 1 0) 2 0) 3 255) 5 4) 4 ((((fun _ => 0) 4078) + (256 * ((fun _ => 0) 4079))) &&& 4095)) 6 0))), (qa_2, .inl (cA, 4096, .inl (fun _ => 0))), (qo_3, .inr (1, [.ref qa_1, .ref qa_4, .ref qb_5, .ref qc_6, .ref qd_7])), (qa_4, .inl (cA, 64, .inl (fun _ => 0))), (qb_5, .inl (cA, 16, .inl (fun _ => 0))), (qc_6, .inl (cA, 900, .inl (fun _ => 0))), (qd_7, .inl (cA, 200, .inl (fun _ => 0))), (qo_8, .inr (3, [.ref qe_9, .int 0, .int 0])), (qe_9, .inl (cA, 10752, .inl (fun _ => 0))), (qo_10, .inr (4, [.ref qa_1, .ref qa_2, .ref qo_3, .ref qo_8, .ref qc_11, .int 0, .int 0])), (qc_11, .inl (cA, 257, .inl g2_31)), (qo_12, .inr (6, [.ref qp_13, .int 0])), (qp_13, .inl (cA, 16, .inl (fun _ => 0))), (qo_14, .inr (7, [.ref qb_15, .int 0, .int 0, .int 0, .int 0, .int 0, .int 0, .int 0, .int 0])), (qb_15, .inl (cA, 6000, .inl (fun _ => 0))), (qo_16, .inr (0, [.ref qo_14, .ref qi_17, .ref qt_18, .ref qs_19, .int (-1), .int (-1), .int 0, .int 0, .int 0, .int 0, .int 0, .int 0, .int 0, .int 0, .int 0, .int 0, .int 0, .int 0])), (qi_17, .inl (cA, 4096, .inl (fun _ => 0))), (qt_18, .inr (2, [.ref qta_20, .ref qtb_21, .ref qtc_22, .ref qtd_23, .int 0])), (qta_20, .inl (cA, 60, .inl (fun _ => 0))), (qtb_21, .inl (cA, 60, .inl (fun _ => 0))), (qtc_22, .inl (cA, 60, .inl (fun _ => 0))), (qtd_23, .inl (cA, 60, .inl (fun _ => 0))), (qs_19, .inr (2, [.ref qsa_24, .ref qsb_25, .ref qsc_26, .ref qsd_27, .int 0])), (qsa_24, .inl (cA, 60, .inl (fun _ => 0))), (qsb_25, .inl (cA, 60, .inl (fun _ => 0))), (qsc_26, .inl (cA, 60, .inl (fun _ => 0))), (qsd_27, .inl (cA, 60, .inl (fun _ => 0))), (qo_28, .inr (5, [.ref ql_29, .int 0])), (ql_29, .inl (cA, 16, .inl (fun _ => 0)))] := hD.sub [0, 26, 27, 1, 2, 3, 4, 5, 29, 6, 25, 28, 7, 8, 9, 10, 11, 12, 13, 14, 15, 16, 17, 18, 19, 20, 21, 22, 23, 24] (by decide) rfl
  exact endV X hr hlocks hP hD hS dX8_init_129 ⟨qa_1, qa_2, qo_3, qa_4, qb_5, qc_6, qd_7, qo_8, qe_9, qo_10, qc_11, qo_12, qp_13, qo_14, qb_15, qo_16, qi_17, qt_18, qta_20, qtb_21, qtc_22, qtd_23, qs_19, qsa_24, qsb_25, qsc_26, qsd_27, qo_28, ql_29, (upd (upd (upd (upd (upd (upd (upd (upd g_30 18 1) 0 0) 1 0) 2 0) 3 255) 5 4) 4 ((((fun _ => 0) 4078) + (256 * ((fun _ => 0) 4079))) &&& 4095)) 6 0), g2_31, (frn_of hf_32), hf_33, rfl⟩
end
section
abbrev cX8_isAddress : ByteArray := prog_1_method_23_code
def yX8_isAddress : MethodName := ⟨RX8, "isAddress", "(I)Z"⟩
abbrev cX8_isByte : ByteArray := prog_1_method_24_code
def yX8_isByte : MethodName := ⟨RX8, "isByte", "(I)Z"⟩
abbrev cX8_peek : ByteArray := prog_1_method_8_code
def yX8_peek : MethodName := ⟨RX8, "peek", "(I)I"⟩
abbrev cX8_poke : ByteArray := prog_1_method_9_code
def yX8_poke : MethodName := ⟨RX8, "poke", "(II)Z"⟩
abbrev cX8_drum : ByteArray := prog_1_method_11_code
def yX8_drum : MethodName := ⟨RX8, "drum", "(II)Z"⟩
abbrev cX8_register : ByteArray := prog_1_method_15_code
def yX8_register : MethodName := ⟨RX8, "register", "(I)I"⟩
abbrev cX8_end : ByteArray := prog_1_method_3_code
def yX8_end : MethodName := ⟨RX8, "end", "(I)I"⟩
abbrev cX1_addKey : ByteArray := prog_3_method_4_code
def yX1_addKey : MethodName := ⟨RX1, "addKey", "(I)V"⟩
abbrev cX8_key : ByteArray := prog_1_method_10_code
def yX8_key : MethodName := ⟨RX8, "key", "(I)I"⟩
abbrev cX6_find : ByteArray := prog_8_method_4_code
def yX6_find : MethodName := ⟨RX6, "find", "(I)I"⟩
abbrev cX6_set : ByteArray := prog_8_method_2_code
def yX6_set : MethodName := ⟨RX6, "set", "(I)I"⟩
abbrev cX6_lift : ByteArray := prog_8_method_3_code
def yX6_lift : MethodName := ⟨RX6, "lift", "(I)I"⟩
abbrev cX8_stop : ByteArray := prog_1_method_12_code
def yX8_stop : MethodName := ⟨RX8, "stop", "(IZ)I"⟩
abbrev cX8_fault : ByteArray := prog_1_method_5_code
def yX8_fault : MethodName := ⟨RX8, "fault", "(I)I"⟩
abbrev cX2_tell : ByteArray := prog_4_method_5_code
def yX2_tell : MethodName := ⟨RX2, "tell", "(II)I"⟩
abbrev cX8_name : ByteArray := prog_1_method_6_code
def yX8_name : MethodName := ⟨RX8, "name", "(II)I"⟩
abbrev cX8_about : ByteArray := prog_1_method_17_code
def yX8_about : MethodName := ⟨RX8, "about", "(I)I"⟩
abbrev cX8_codes : ByteArray := prog_1_method_18_code
def yX8_codes : MethodName := ⟨RX8, "codes", "(I)I"⟩
abbrev cX8_ring : ByteArray := prog_1_method_19_code
def yX8_ring : MethodName := ⟨RX8, "ring", "(II)I"⟩
abbrev cX8_strip : ByteArray := prog_1_method_20_code
def yX8_strip : MethodName := ⟨RX8, "strip", "(I)I"⟩
abbrev cX8_out : ByteArray := prog_1_method_22_code
def yX8_out : MethodName := ⟨RX8, "out", "(I)I"⟩
abbrev cX8_back : ByteArray := prog_1_method_14_code
def yX8_back : MethodName := ⟨RX8, "back", "(I)I"⟩
abbrev cX7_hasRoom : ByteArray := prog_9_method_2_code
def yX7_hasRoom : MethodName := ⟨RX7, "hasRoom", "(I)Z"⟩
abbrev cX7_add : ByteArray := prog_9_method_3_code
def yX7_add : MethodName := ⟨RX7, "add", "(I)V"⟩
abbrev cX8_feed : ByteArray := prog_1_method_2_code
def yX8_feed : MethodName := ⟨RX8, "feed", "(IIIII)I"⟩
abbrev cX1_pinsOfRow : ByteArray := prog_3_method_3_code
def yX1_pinsOfRow : MethodName := ⟨RX1, "pinsOfRow", "()I"⟩
abbrev cX1_keyAt : ByteArray := prog_3_method_5_code
def yX1_keyAt : MethodName := ⟨RX1, "keyAt", "(I)I"⟩
abbrev cX8_device : ByteArray := prog_1_method_16_code
def yX8_device : MethodName := ⟨RX8, "device", "(I)I"⟩
abbrev cX8_restart : ByteArray := prog_1_method_7_code
def yX8_restart : MethodName := ⟨RX8, "restart", "()V"⟩
set_option maxRecDepth 100000 in
theorem w_114 : (Cond.methodLink "BelfryBox" 115 yX8_isAddress : Cond) ∈ gw := List.mem_filter.mpr ⟨List.mem_append_right _ (tb3 (List.mem_of_getElem? (i := 129) rfl)), rfl⟩
set_option maxRecDepth 100000 in
theorem w_115 : (Cond.code yX8_isAddress prog_1_method_23_code 1 (Option.some Jvm.ClassFile.FieldType.boolean) : Cond) ∈ gw := List.mem_filter.mpr ⟨List.mem_append_right _ (tb3 (List.mem_of_getElem? (i := 131) rfl)), rfl⟩
set_option maxRecDepth 100000 in
theorem w_116 : (Cond.initialized "BelfryBox" : Cond) ∈ gw := List.mem_filter.mpr ⟨List.mem_append_right _ (tb1 (List.mem_of_getElem? (i := 1) rfl)), rfl⟩
set_option maxRecDepth 100000 in
theorem w_117 : (Cond.static yX8_isAddress : Cond) ∈ gw := List.mem_filter.mpr ⟨List.mem_append_right _ (tb3 (List.mem_of_getElem? (i := 130) rfl)), rfl⟩
set_option maxRecDepth 100000 in
theorem w_118 : (Cond.methodLink "BelfryBox" 118 yX8_isByte : Cond) ∈ gw := List.mem_filter.mpr ⟨List.mem_append_right _ (tb3 (List.mem_of_getElem? (i := 136) rfl)), rfl⟩
set_option maxRecDepth 100000 in
theorem w_119 : (Cond.code yX8_isByte prog_1_method_24_code 1 (Option.some Jvm.ClassFile.FieldType.boolean) : Cond) ∈ gw := List.mem_filter.mpr ⟨List.mem_append_right _ (tb3 (List.mem_of_getElem? (i := 138) rfl)), rfl⟩
set_option maxRecDepth 100000 in
theorem w_120 : (Cond.static yX8_isByte : Cond) ∈ gw := List.mem_filter.mpr ⟨List.mem_append_right _ (tb3 (List.mem_of_getElem? (i := 137) rfl)), rfl⟩
set_option maxRecDepth 100000 in
theorem w_121 : (Cond.methodLink "BelfryBox" 121 yX3_forget : Cond) ∈ gw := List.mem_filter.mpr ⟨List.mem_append_right _ (tb3 (List.mem_of_getElem? (i := 139) rfl)), rfl⟩
set_option maxRecDepth 100000 in
theorem w_122 : (Cond.methodLink "BelfryBox" 124 yX1_addKey : Cond) ∈ gw := List.mem_filter.mpr ⟨List.mem_append_right _ (tb3 (List.mem_of_getElem? (i := 144) rfl)), rfl⟩
set_option maxRecDepth 100000 in
theorem w_123 : (Cond.code yX1_addKey prog_3_method_4_code 2 (Option.none : Option Jvm.ClassFile.FieldType) : Cond) ∈ gw := List.mem_filter.mpr ⟨List.mem_append_right _ (tb3 (List.mem_of_getElem? (i := 147) rfl)), rfl⟩
set_option maxRecDepth 100000 in
theorem w_124 : (Cond.instanceMethod yX1_addKey : Cond) ∈ gw := List.mem_filter.mpr ⟨List.mem_append_right _ (tb3 (List.mem_of_getElem? (i := 145) rfl)), rfl⟩
set_option maxRecDepth 100000 in
theorem w_125 : (Cond.selects "BelfryBox$Devices" yX1_addKey yX1_addKey : Cond) ∈ gw := List.mem_filter.mpr ⟨List.mem_append_right _ (tb3 (List.mem_of_getElem? (i := 146) rfl)), rfl⟩
set_option maxRecDepth 100000 in
theorem w_126 : (Cond.fieldLink "BelfryBox$Stops" 19 "BelfryBox$Stops" "count" "I" : Cond) ∈ gw := List.mem_filter.mpr ⟨List.mem_append_right _ (tb1 (List.mem_of_getElem? (i := 108) rfl)), rfl⟩
set_option maxRecDepth 100000 in
theorem w_127 : (Cond.methodLink "BelfryBox$Stops" 15 yX6_find : Cond) ∈ gw := List.mem_filter.mpr ⟨List.mem_append_right _ (tb3 (List.mem_of_getElem? (i := 160) rfl)), rfl⟩
set_option maxRecDepth 100000 in
theorem w_128 : (Cond.code yX6_find prog_8_method_4_code 3 (Option.some Jvm.ClassFile.FieldType.int) : Cond) ∈ gw := List.mem_filter.mpr ⟨List.mem_append_right _ (tb3 (List.mem_of_getElem? (i := 163) rfl)), rfl⟩
set_option maxRecDepth 100000 in
theorem w_129 : (Cond.instanceMethod yX6_find : Cond) ∈ gw := List.mem_filter.mpr ⟨List.mem_append_right _ (tb3 (List.mem_of_getElem? (i := 161) rfl)), rfl⟩
set_option maxRecDepth 100000 in
theorem w_130 : (Cond.selects "BelfryBox$Stops" yX6_find yX6_find : Cond) ∈ gw := List.mem_filter.mpr ⟨List.mem_append_right _ (tb3 (List.mem_of_getElem? (i := 162) rfl)), rfl⟩
set_option maxRecDepth 100000 in
theorem w_131 : (Cond.methodLink "BelfryBox" 134 yX6_lift : Cond) ∈ gw := List.mem_filter.mpr ⟨List.mem_append_right _ (tb3 (List.mem_of_getElem? (i := 164) rfl)), rfl⟩
set_option maxRecDepth 100000 in
theorem w_132 : (Cond.code yX6_lift prog_8_method_3_code 3 (Option.some Jvm.ClassFile.FieldType.int) : Cond) ∈ gw := List.mem_filter.mpr ⟨List.mem_append_right _ (tb3 (List.mem_of_getElem? (i := 167) rfl)), rfl⟩
set_option maxRecDepth 100000 in
theorem w_133 : (Cond.instanceMethod yX6_lift : Cond) ∈ gw := List.mem_filter.mpr ⟨List.mem_append_right _ (tb3 (List.mem_of_getElem? (i := 165) rfl)), rfl⟩
set_option maxRecDepth 100000 in
theorem w_134 : (Cond.selects "BelfryBox$Stops" yX6_lift yX6_lift : Cond) ∈ gw := List.mem_filter.mpr ⟨List.mem_append_right _ (tb3 (List.mem_of_getElem? (i := 166) rfl)), rfl⟩
set_option maxRecDepth 100000 in
theorem w_135 : (Cond.methodLink "BelfryBox" 130 yX6_set : Cond) ∈ gw := List.mem_filter.mpr ⟨List.mem_append_right _ (tb3 (List.mem_of_getElem? (i := 156) rfl)), rfl⟩
set_option maxRecDepth 100000 in
theorem w_136 : (Cond.code yX6_set prog_8_method_2_code 2 (Option.some Jvm.ClassFile.FieldType.int) : Cond) ∈ gw := List.mem_filter.mpr ⟨List.mem_append_right _ (tb3 (List.mem_of_getElem? (i := 159) rfl)), rfl⟩
set_option maxRecDepth 100000 in
theorem w_137 : (Cond.instanceMethod yX6_set : Cond) ∈ gw := List.mem_filter.mpr ⟨List.mem_append_right _ (tb3 (List.mem_of_getElem? (i := 157) rfl)), rfl⟩
set_option maxRecDepth 100000 in
theorem w_138 : (Cond.selects "BelfryBox$Stops" yX6_set yX6_set : Cond) ∈ gw := List.mem_filter.mpr ⟨List.mem_append_right _ (tb3 (List.mem_of_getElem? (i := 158) rfl)), rfl⟩
set_option maxRecDepth 100000 in
theorem w_139 : (Cond.fieldLink "BelfryBox$Names" 24 "BelfryBox$Names" "count" "I" : Cond) ∈ gw := List.mem_filter.mpr ⟨List.mem_append_right _ (tb1 (List.mem_of_getElem? (i := 175) rfl)), rfl⟩
set_option maxRecDepth 100000 in
theorem w_140 : (Cond.methodLink "BelfryBox" 109 yX2_tell : Cond) ∈ gw := List.mem_filter.mpr ⟨List.mem_append_right _ (tb3 (List.mem_of_getElem? (i := 120) rfl)), rfl⟩
set_option maxRecDepth 100000 in
theorem w_141 : (Cond.code yX2_tell prog_4_method_5_code 3 (Option.some Jvm.ClassFile.FieldType.int) : Cond) ∈ gw := List.mem_filter.mpr ⟨List.mem_append_right _ (tb3 (List.mem_of_getElem? (i := 48) rfl)), rfl⟩
set_option maxRecDepth 100000 in
theorem w_142 : (Cond.instanceMethod yX2_tell : Cond) ∈ gw := List.mem_filter.mpr ⟨List.mem_append_right _ (tb3 (List.mem_of_getElem? (i := 46) rfl)), rfl⟩
set_option maxRecDepth 100000 in
theorem w_143 : (Cond.selects "BelfryBox$Names" yX2_tell yX2_tell : Cond) ∈ gw := List.mem_filter.mpr ⟨List.mem_append_right _ (tb3 (List.mem_of_getElem? (i := 47) rfl)), rfl⟩
set_option maxRecDepth 100000 in
theorem w_144 : (Cond.fieldLink "BelfryBox$Tape" 15 "BelfryBox$Tape" "length" "I" : Cond) ∈ gw := List.mem_filter.mpr ⟨List.mem_append_right _ (tb1 (List.mem_of_getElem? (i := 123) rfl)), rfl⟩
set_option maxRecDepth 100000 in
theorem w_145 : (Cond.methodLink "BelfryBox" 74 yX7_hasRoom : Cond) ∈ gw := List.mem_filter.mpr ⟨List.mem_append_right _ (tb2 (List.mem_of_getElem? (i := 78) rfl)), rfl⟩
set_option maxRecDepth 100000 in
theorem w_146 : (Cond.code yX7_hasRoom prog_9_method_2_code 2 (Option.some Jvm.ClassFile.FieldType.boolean) : Cond) ∈ gw := List.mem_filter.mpr ⟨List.mem_append_right _ (tb2 (List.mem_of_getElem? (i := 81) rfl)), rfl⟩
set_option maxRecDepth 100000 in
theorem w_147 : (Cond.instanceMethod yX7_hasRoom : Cond) ∈ gw := List.mem_filter.mpr ⟨List.mem_append_right _ (tb2 (List.mem_of_getElem? (i := 79) rfl)), rfl⟩
set_option maxRecDepth 100000 in
theorem w_148 : (Cond.selects "BelfryBox$Tape" yX7_hasRoom yX7_hasRoom : Cond) ∈ gw := List.mem_filter.mpr ⟨List.mem_append_right _ (tb2 (List.mem_of_getElem? (i := 80) rfl)), rfl⟩
set_option maxRecDepth 100000 in
theorem w_149 : (Cond.methodLink "BelfryBox" 78 yX7_add : Cond) ∈ gw := List.mem_filter.mpr ⟨List.mem_append_right _ (tb2 (List.mem_of_getElem? (i := 82) rfl)), rfl⟩
set_option maxRecDepth 100000 in
theorem w_150 : (Cond.code yX7_add prog_9_method_3_code 3 (Option.none : Option Jvm.ClassFile.FieldType) : Cond) ∈ gw := List.mem_filter.mpr ⟨List.mem_append_right _ (tb2 (List.mem_of_getElem? (i := 85) rfl)), rfl⟩
set_option maxRecDepth 100000 in
theorem w_151 : (Cond.instanceMethod yX7_add : Cond) ∈ gw := List.mem_filter.mpr ⟨List.mem_append_right _ (tb2 (List.mem_of_getElem? (i := 83) rfl)), rfl⟩
set_option maxRecDepth 100000 in
theorem w_152 : (Cond.selects "BelfryBox$Tape" yX7_add yX7_add : Cond) ∈ gw := List.mem_filter.mpr ⟨List.mem_append_right _ (tb2 (List.mem_of_getElem? (i := 84) rfl)), rfl⟩
set_option maxRecDepth 100000 in
theorem w_153 : (Cond.methodLink "BelfryBox" 155 yX1_keyAt : Cond) ∈ gw := List.mem_filter.mpr ⟨List.mem_append_right _ (tb4 (List.mem_of_getElem? (i := 213) rfl)), rfl⟩
set_option maxRecDepth 100000 in
theorem w_154 : (Cond.code yX1_keyAt prog_3_method_5_code 2 (Option.some Jvm.ClassFile.FieldType.int) : Cond) ∈ gw := List.mem_filter.mpr ⟨List.mem_append_right _ (tb4 (List.mem_of_getElem? (i := 216) rfl)), rfl⟩
set_option maxRecDepth 100000 in
theorem w_155 : (Cond.instanceMethod yX1_keyAt : Cond) ∈ gw := List.mem_filter.mpr ⟨List.mem_append_right _ (tb4 (List.mem_of_getElem? (i := 214) rfl)), rfl⟩
set_option maxRecDepth 100000 in
theorem w_156 : (Cond.selects "BelfryBox$Devices" yX1_keyAt yX1_keyAt : Cond) ∈ gw := List.mem_filter.mpr ⟨List.mem_append_right _ (tb4 (List.mem_of_getElem? (i := 215) rfl)), rfl⟩
set_option maxRecDepth 100000 in
theorem w_157 : (Cond.methodLink "BelfryBox" 151 yX1_pinsOfRow : Cond) ∈ gw := List.mem_filter.mpr ⟨List.mem_append_right _ (tb4 (List.mem_of_getElem? (i := 212) rfl)), rfl⟩
set_option maxRecDepth 100000 in
theorem w_158 : (Cond.code yX1_pinsOfRow prog_3_method_3_code 1 (Option.some Jvm.ClassFile.FieldType.int) : Cond) ∈ gw := List.mem_filter.mpr ⟨List.mem_append_right _ (tb4 (List.mem_of_getElem? (i := 88) rfl)), rfl⟩
set_option maxRecDepth 100000 in
theorem w_159 : (Cond.instanceMethod yX1_pinsOfRow : Cond) ∈ gw := List.mem_filter.mpr ⟨List.mem_append_right _ (tb4 (List.mem_of_getElem? (i := 86) rfl)), rfl⟩
set_option maxRecDepth 100000 in
theorem w_160 : (Cond.selects "BelfryBox$Devices" yX1_pinsOfRow yX1_pinsOfRow : Cond) ∈ gw := List.mem_filter.mpr ⟨List.mem_append_right _ (tb4 (List.mem_of_getElem? (i := 87) rfl)), rfl⟩
theorem nw_0 : (Cond.fieldLinkNest "BelfryBox" 127 "BelfryBox$Devices" "pins" "[I" "BelfryBox" : Cond) ∈ nests := List.mem_of_getElem? (i := 0) rfl
theorem nw_12 : (Cond.fieldLinkNest "BelfryBox" 82 "BelfryBox$Tape" "length" "I" "BelfryBox" : Cond) ∈ nests := List.mem_of_getElem? (i := 12) rfl
theorem nw_25 : (Cond.fieldLinkNest "BelfryBox" 99 "BelfryBox$Assembler" "faultKind" "I" "BelfryBox" : Cond) ∈ nests := List.mem_of_getElem? (i := 25) rfl
theorem nw_26 : (Cond.fieldLinkNest "BelfryBox" 102 "BelfryBox$Assembler" "faultPlace" "I" "BelfryBox" : Cond) ∈ nests := List.mem_of_getElem? (i := 26) rfl
theorem nw_24 : (Cond.fieldLinkNest "BelfryBox" 105 "BelfryBox$Assembler" "settled" "LBelfryBox$Names;" "BelfryBox" : Cond) ∈ nests := List.mem_of_getElem? (i := 24) rfl
theorem nw_6 : (Cond.fieldLinkNest "BelfryBox" 158 "BelfryBox$Processor" "why" "I" "BelfryBox" : Cond) ∈ nests := List.mem_of_getElem? (i := 6) rfl
theorem nw_7 : (Cond.fieldLinkNest "BelfryBox" 161 "BelfryBox$Processor" "done" "I" "BelfryBox" : Cond) ∈ nests := List.mem_of_getElem? (i := 7) rfl
theorem nw_4 : (Cond.fieldLinkNest "BelfryBox" 141 "BelfryBox$Past" "kept" "I" "BelfryBox" : Cond) ∈ nests := List.mem_of_getElem? (i := 4) rfl
theorem nw_23 : (Cond.fieldLinkNest "BelfryBox" 164 "BelfryBox$Names" "count" "I" "BelfryBox" : Cond) ∈ nests := List.mem_of_getElem? (i := 23) rfl
theorem nw_9 : (Cond.fieldLinkNest "BelfryBox" 167 "BelfryBox$Stops" "count" "I" "BelfryBox" : Cond) ∈ nests := List.mem_of_getElem? (i := 9) rfl
theorem nw_5 : (Cond.fieldLinkNest "BelfryBox" 144 "BelfryBox$Processor" "counts" "[I" "BelfryBox" : Cond) ∈ nests := List.mem_of_getElem? (i := 5) rfl
theorem nw_30 : (Cond.fieldLinkNest "BelfryBox" 177 "BelfryBox$Reader" "length" "I" "BelfryBox" : Cond) ∈ nests := List.mem_of_getElem? (i := 30) rfl
theorem dX8_isAddress_0 : decode cX8_isAddress 0 = .ok (.iload_n 0, 1) := by decide +kernel
theorem dX8_isAddress_1 : decode cX8_isAddress 1 = .ok (.ifCond .lt 14, 3) := by decide +kernel
theorem dX8_isAddress_15 : decode cX8_isAddress 15 = .ok (.iconst 0, 1) := by decide +kernel
theorem dX8_isAddress_16 : decode cX8_isAddress 16 = .ok (.ireturn, 1) := by decide +kernel
theorem dX8_isAddress_4 : decode cX8_isAddress 4 = .ok (.iload_n 0, 1) := by decide +kernel
theorem dX8_isAddress_5 : decode cX8_isAddress 5 = .ok (.sipush 4096, 3) := by decide +kernel
theorem dX8_isAddress_8 : decode cX8_isAddress 8 = .ok (.if_icmp .ge 7, 3) := by decide +kernel
theorem dX8_isAddress_11 : decode cX8_isAddress 11 = .ok (.iconst 1, 1) := by decide +kernel
theorem dX8_isAddress_12 : decode cX8_isAddress 12 = .ok (.goto 4, 3) := by decide +kernel
theorem dX8_isByte_0 : decode cX8_isByte 0 = .ok (.iload_n 0, 1) := by decide +kernel
theorem dX8_isByte_1 : decode cX8_isByte 1 = .ok (.ifCond .lt 14, 3) := by decide +kernel
theorem dX8_isByte_15 : decode cX8_isByte 15 = .ok (.iconst 0, 1) := by decide +kernel
theorem dX8_isByte_16 : decode cX8_isByte 16 = .ok (.ireturn, 1) := by decide +kernel
theorem dX8_isByte_4 : decode cX8_isByte 4 = .ok (.iload_n 0, 1) := by decide +kernel
theorem dX8_isByte_5 : decode cX8_isByte 5 = .ok (.sipush 255, 3) := by decide +kernel
theorem dX8_isByte_8 : decode cX8_isByte 8 = .ok (.if_icmp .gt 7, 3) := by decide +kernel
theorem dX8_isByte_11 : decode cX8_isByte 11 = .ok (.iconst 1, 1) := by decide +kernel
theorem dX8_isByte_12 : decode cX8_isByte 12 = .ok (.goto 4, 3) := by decide +kernel
theorem dX8_peek_0 : decode cX8_peek 0 = .ok (.iload_n 1, 1) := by decide +kernel
theorem dX8_peek_1 : decode cX8_peek 1 = .ok (.invokestatic 115, 3) := by decide +kernel
theorem dX8_peek_4 : decode cX8_peek 4 = .ok (.ifCond .eq 12, 3) := by decide +kernel
theorem dX8_peek_16 : decode cX8_peek 16 = .ok (.iconst (-1), 1) := by decide +kernel
theorem dX8_peek_17 : decode cX8_peek 17 = .ok (.ireturn, 1) := by decide +kernel
theorem dX8_peek_7 : decode cX8_peek 7 = .ok (.aload_n 0, 1) := by decide +kernel
theorem dX8_peek_8 : decode cX8_peek 8 = .ok (.getfield 13, 3) := by decide +kernel
theorem dX8_peek_11 : decode cX8_peek 11 = .ok (.iload_n 1, 1) := by decide +kernel
theorem dX8_peek_12 : decode cX8_peek 12 = .ok (.iaload, 1) := by decide +kernel
theorem dX8_peek_13 : decode cX8_peek 13 = .ok (.goto 4, 3) := by decide +kernel
theorem dX8_poke_0 : decode cX8_poke 0 = .ok (.iload_n 1, 1) := by decide +kernel
theorem dX8_poke_1 : decode cX8_poke 1 = .ok (.ifCond .lt 17, 3) := by decide +kernel
theorem dX8_poke_18 : decode cX8_poke 18 = .ok (.iconst 0, 1) := by decide +kernel
theorem dX8_poke_19 : decode cX8_poke 19 = .ok (.ireturn, 1) := by decide +kernel
theorem dX8_poke_4 : decode cX8_poke 4 = .ok (.iload_n 1, 1) := by decide +kernel
theorem dX8_poke_5 : decode cX8_poke 5 = .ok (.sipush 4080, 3) := by decide +kernel
theorem dX8_poke_8 : decode cX8_poke 8 = .ok (.if_icmp .ge 10, 3) := by decide +kernel
theorem dX8_poke_11 : decode cX8_poke 11 = .ok (.iload_n 2, 1) := by decide +kernel
theorem dX8_poke_12 : decode cX8_poke 12 = .ok (.invokestatic 118, 3) := by decide +kernel
theorem dX8_poke_15 : decode cX8_poke 15 = .ok (.ifCond .ne 5, 3) := by decide +kernel
theorem dX8_poke_20 : decode cX8_poke 20 = .ok (.aload_n 0, 1) := by decide +kernel
theorem dX8_poke_21 : decode cX8_poke 21 = .ok (.getfield 13, 3) := by decide +kernel
theorem dX8_poke_24 : decode cX8_poke 24 = .ok (.iload_n 1, 1) := by decide +kernel
theorem dX8_poke_25 : decode cX8_poke 25 = .ok (.iload_n 2, 1) := by decide +kernel
theorem dX8_poke_26 : decode cX8_poke 26 = .ok (.iastore, 1) := by decide +kernel
theorem dX8_poke_27 : decode cX8_poke 27 = .ok (.aload_n 0, 1) := by decide +kernel
theorem dX8_poke_28 : decode cX8_poke 28 = .ok (.getfield 28, 3) := by decide +kernel
theorem dX8_poke_31 : decode cX8_poke 31 = .ok (.invokevirtual 121, 3) := by decide +kernel
theorem dX8_poke_34 : decode cX8_poke 34 = .ok (.iconst 1, 1) := by decide +kernel
theorem dX8_poke_35 : decode cX8_poke 35 = .ok (.ireturn, 1) := by decide +kernel
theorem dX8_drum_0 : decode cX8_drum 0 = .ok (.iload_n 1, 1) := by decide +kernel
theorem dX8_drum_1 : decode cX8_drum 1 = .ok (.ifCond .lt 16, 3) := by decide +kernel
theorem dX8_drum_17 : decode cX8_drum 17 = .ok (.iconst 0, 1) := by decide +kernel
theorem dX8_drum_18 : decode cX8_drum 18 = .ok (.ireturn, 1) := by decide +kernel
theorem dX8_drum_4 : decode cX8_drum 4 = .ok (.iload_n 1, 1) := by decide +kernel
theorem dX8_drum_5 : decode cX8_drum 5 = .ok (.bipush 64, 2) := by decide +kernel
theorem dX8_drum_7 : decode cX8_drum 7 = .ok (.if_icmp .ge 10, 3) := by decide +kernel
theorem dX8_drum_10 : decode cX8_drum 10 = .ok (.iload_n 2, 1) := by decide +kernel
theorem dX8_drum_11 : decode cX8_drum 11 = .ok (.invokestatic 118, 3) := by decide +kernel
theorem dX8_drum_14 : decode cX8_drum 14 = .ok (.ifCond .ne 5, 3) := by decide +kernel
theorem dX8_drum_19 : decode cX8_drum 19 = .ok (.aload_n 0, 1) := by decide +kernel
theorem dX8_drum_20 : decode cX8_drum 20 = .ok (.getfield 21, 3) := by decide +kernel
theorem dX8_drum_23 : decode cX8_drum 23 = .ok (.getfield 127, 3) := by decide +kernel
theorem dX8_drum_26 : decode cX8_drum 26 = .ok (.iload_n 1, 1) := by decide +kernel
theorem dX8_drum_27 : decode cX8_drum 27 = .ok (.iload_n 2, 1) := by decide +kernel
theorem dX8_drum_28 : decode cX8_drum 28 = .ok (.iastore, 1) := by decide +kernel
theorem dX8_drum_29 : decode cX8_drum 29 = .ok (.aload_n 0, 1) := by decide +kernel
theorem dX8_drum_30 : decode cX8_drum 30 = .ok (.getfield 28, 3) := by decide +kernel
theorem dX8_drum_33 : decode cX8_drum 33 = .ok (.invokevirtual 121, 3) := by decide +kernel
theorem dX8_drum_36 : decode cX8_drum 36 = .ok (.iconst 1, 1) := by decide +kernel
theorem dX8_drum_37 : decode cX8_drum 37 = .ok (.ireturn, 1) := by decide +kernel
theorem dX8_register_0 : decode cX8_register 0 = .ok (.iload_n 1, 1) := by decide +kernel
theorem dX8_register_1 : decode cX8_register 1 = .ok (.ifCond .lt 18, 3) := by decide +kernel
theorem dX8_register_19 : decode cX8_register 19 = .ok (.iconst 0, 1) := by decide +kernel
theorem dX8_register_20 : decode cX8_register 20 = .ok (.ireturn, 1) := by decide +kernel
theorem dX8_register_4 : decode cX8_register 4 = .ok (.iload_n 1, 1) := by decide +kernel
theorem dX8_register_5 : decode cX8_register 5 = .ok (.bipush 7, 2) := by decide +kernel
theorem dX8_register_7 : decode cX8_register 7 = .ok (.if_icmp .gt 12, 3) := by decide +kernel
theorem dX8_register_10 : decode cX8_register 10 = .ok (.aload_n 0, 1) := by decide +kernel
theorem dX8_register_11 : decode cX8_register 11 = .ok (.getfield 9, 3) := by decide +kernel
theorem dX8_register_14 : decode cX8_register 14 = .ok (.iload_n 1, 1) := by decide +kernel
theorem dX8_register_15 : decode cX8_register 15 = .ok (.iaload, 1) := by decide +kernel
theorem dX8_register_16 : decode cX8_register 16 = .ok (.goto 4, 3) := by decide +kernel
theorem dX8_end_0 : decode cX8_end 0 = .ok (.iload_n 1, 1) := by decide +kernel
theorem dX8_end_1 : decode cX8_end 1 = .ok (.ifCond .lt 14, 3) := by decide +kernel
theorem dX8_end_15 : decode cX8_end 15 = .ok (.iconst (-1), 1) := by decide +kernel
theorem dX8_end_16 : decode cX8_end 16 = .ok (.ireturn, 1) := by decide +kernel
theorem dX8_end_4 : decode cX8_end 4 = .ok (.iload_n 1, 1) := by decide +kernel
theorem dX8_end_5 : decode cX8_end 5 = .ok (.aload_n 0, 1) := by decide +kernel
theorem dX8_end_6 : decode cX8_end 6 = .ok (.getfield 51, 3) := by decide +kernel
theorem dX8_end_9 : decode cX8_end 9 = .ok (.getfield 82, 3) := by decide +kernel
theorem dX8_end_12 : decode cX8_end 12 = .ok (.if_icmp .le 5, 3) := by decide +kernel
theorem dX8_end_17 : decode cX8_end 17 = .ok (.aload_n 0, 1) := by decide +kernel
theorem dX8_end_18 : decode cX8_end 18 = .ok (.getfield 51, 3) := by decide +kernel
theorem dX8_end_21 : decode cX8_end 21 = .ok (.iload_n 1, 1) := by decide +kernel
theorem dX8_end_22 : decode cX8_end 22 = .ok (.putfield 82, 3) := by decide +kernel
theorem dX8_end_25 : decode cX8_end 25 = .ok (.iload_n 1, 1) := by decide +kernel
theorem dX8_end_26 : decode cX8_end 26 = .ok (.ireturn, 1) := by decide +kernel
theorem dX1_addKey_0 : decode cX1_addKey 0 = .ok (.aload_n 0, 1) := by decide +kernel
theorem dX1_addKey_1 : decode cX1_addKey 1 = .ok (.getfield 15, 3) := by decide +kernel
theorem dX1_addKey_4 : decode cX1_addKey 4 = .ok (.aload_n 0, 1) := by decide +kernel
theorem dX1_addKey_5 : decode cX1_addKey 5 = .ok (.getfield 24, 3) := by decide +kernel
theorem dX1_addKey_8 : decode cX1_addKey 8 = .ok (.bipush 33, 2) := by decide +kernel
theorem dX1_addKey_10 : decode cX1_addKey 10 = .ok (.iaload, 1) := by decide +kernel
theorem dX1_addKey_11 : decode cX1_addKey 11 = .ok (.aload_n 0, 1) := by decide +kernel
theorem dX1_addKey_12 : decode cX1_addKey 12 = .ok (.getfield 24, 3) := by decide +kernel
theorem dX1_addKey_15 : decode cX1_addKey 15 = .ok (.bipush 19, 2) := by decide +kernel
theorem dX1_addKey_17 : decode cX1_addKey 17 = .ok (.iaload, 1) := by decide +kernel
theorem dX1_addKey_18 : decode cX1_addKey 18 = .ok (.iadd, 1) := by decide +kernel
theorem dX1_addKey_19 : decode cX1_addKey 19 = .ok (.bipush 16, 2) := by decide +kernel
theorem dX1_addKey_21 : decode cX1_addKey 21 = .ok (.irem, 1) := by decide +kernel
theorem dX1_addKey_22 : decode cX1_addKey 22 = .ok (.iload_n 1, 1) := by decide +kernel
theorem dX1_addKey_23 : decode cX1_addKey 23 = .ok (.iastore, 1) := by decide +kernel
theorem dX1_addKey_24 : decode cX1_addKey 24 = .ok (.aload_n 0, 1) := by decide +kernel
theorem dX1_addKey_25 : decode cX1_addKey 25 = .ok (.getfield 24, 3) := by decide +kernel
theorem dX1_addKey_28 : decode cX1_addKey 28 = .ok (.bipush 19, 2) := by decide +kernel
theorem dX1_addKey_30 : decode cX1_addKey 30 = .ok (.dup2, 1) := by decide +kernel
theorem dX1_addKey_31 : decode cX1_addKey 31 = .ok (.iaload, 1) := by decide +kernel
theorem dX1_addKey_32 : decode cX1_addKey 32 = .ok (.iconst 1, 1) := by decide +kernel
theorem dX1_addKey_33 : decode cX1_addKey 33 = .ok (.iadd, 1) := by decide +kernel
theorem dX1_addKey_34 : decode cX1_addKey 34 = .ok (.iastore, 1) := by decide +kernel
theorem dX1_addKey_35 : decode cX1_addKey 35 = .ok (.aload_n 0, 1) := by decide +kernel
theorem dX1_addKey_36 : decode cX1_addKey 36 = .ok (.getfield 24, 3) := by decide +kernel
theorem dX1_addKey_39 : decode cX1_addKey 39 = .ok (.bipush 15, 2) := by decide +kernel
theorem dX1_addKey_41 : decode cX1_addKey 41 = .ok (.dup2, 1) := by decide +kernel
theorem dX1_addKey_42 : decode cX1_addKey 42 = .ok (.iaload, 1) := by decide +kernel
theorem dX1_addKey_43 : decode cX1_addKey 43 = .ok (.bipush 8, 2) := by decide +kernel
theorem dX1_addKey_45 : decode cX1_addKey 45 = .ok (.ior, 1) := by decide +kernel
theorem dX1_addKey_46 : decode cX1_addKey 46 = .ok (.iastore, 1) := by decide +kernel
theorem dX1_addKey_47 : decode cX1_addKey 47 = .ok (.return_, 1) := by decide +kernel
theorem dX8_key_0 : decode cX8_key 0 = .ok (.iload_n 1, 1) := by decide +kernel
theorem dX8_key_1 : decode cX8_key 1 = .ok (.invokestatic 118, 3) := by decide +kernel
theorem dX8_key_4 : decode cX8_key 4 = .ok (.ifCond .eq 15, 3) := by decide +kernel
theorem dX8_key_19 : decode cX8_key 19 = .ok (.iconst (-1), 1) := by decide +kernel
theorem dX8_key_20 : decode cX8_key 20 = .ok (.ireturn, 1) := by decide +kernel
theorem dX8_key_7 : decode cX8_key 7 = .ok (.aload_n 0, 1) := by decide +kernel
theorem dX8_key_8 : decode cX8_key 8 = .ok (.getfield 9, 3) := by decide +kernel
theorem dX8_key_11 : decode cX8_key 11 = .ok (.bipush 19, 2) := by decide +kernel
theorem dX8_key_13 : decode cX8_key 13 = .ok (.iaload, 1) := by decide +kernel
theorem dX8_key_14 : decode cX8_key 14 = .ok (.bipush 16, 2) := by decide +kernel
theorem dX8_key_16 : decode cX8_key 16 = .ok (.if_icmp .lt 5, 3) := by decide +kernel
theorem dX8_key_21 : decode cX8_key 21 = .ok (.aload_n 0, 1) := by decide +kernel
theorem dX8_key_22 : decode cX8_key 22 = .ok (.getfield 21, 3) := by decide +kernel
theorem dX8_key_25 : decode cX8_key 25 = .ok (.iload_n 1, 1) := by decide +kernel
theorem dX8_key_26 : decode cX8_key 26 = .ok (.invokevirtual 124, 3) := by decide +kernel
theorem dX8_key_29 : decode cX8_key 29 = .ok (.aload_n 0, 1) := by decide +kernel
theorem dX8_key_30 : decode cX8_key 30 = .ok (.getfield 28, 3) := by decide +kernel
theorem dX8_key_33 : decode cX8_key 33 = .ok (.invokevirtual 121, 3) := by decide +kernel
theorem dX8_key_36 : decode cX8_key 36 = .ok (.aload_n 0, 1) := by decide +kernel
theorem dX8_key_37 : decode cX8_key 37 = .ok (.getfield 9, 3) := by decide +kernel
theorem dX8_key_40 : decode cX8_key 40 = .ok (.bipush 19, 2) := by decide +kernel
theorem dX8_key_42 : decode cX8_key 42 = .ok (.iaload, 1) := by decide +kernel
theorem dX8_key_43 : decode cX8_key 43 = .ok (.ireturn, 1) := by decide +kernel
theorem dX6_find_0 : decode cX6_find 0 = .ok (.iconst 0, 1) := by decide +kernel
theorem dX6_find_1 : decode cX6_find 1 = .ok (.istore_n 2, 1) := by decide +kernel
theorem dX6_find_2 : decode cX6_find 2 = .ok (.iload_n 2, 1) := by decide +kernel
theorem dX6_find_3 : decode cX6_find 3 = .ok (.aload_n 0, 1) := by decide +kernel
theorem dX6_find_4 : decode cX6_find 4 = .ok (.getfield 19, 3) := by decide +kernel
theorem dX6_find_7 : decode cX6_find 7 = .ok (.if_icmp .ge 21, 3) := by decide +kernel
theorem dX6_find_28 : decode cX6_find 28 = .ok (.iconst (-1), 1) := by decide +kernel
theorem dX6_find_29 : decode cX6_find 29 = .ok (.ireturn, 1) := by decide +kernel
theorem dX6_set_0 : decode cX6_set 0 = .ok (.aload_n 0, 1) := by decide +kernel
theorem dX6_set_1 : decode cX6_set 1 = .ok (.iload_n 1, 1) := by decide +kernel
theorem dX6_set_2 : decode cX6_set 2 = .ok (.invokevirtual 15, 3) := by decide +kernel
theorem dX6_set_5 : decode cX6_set 5 = .ok (.iconst (-1), 1) := by decide +kernel
theorem dX6_set_6 : decode cX6_set 6 = .ok (.if_icmp .eq 8, 3) := by decide +kernel
theorem dX6_set_14 : decode cX6_set 14 = .ok (.aload_n 0, 1) := by decide +kernel
theorem dX6_set_15 : decode cX6_set 15 = .ok (.getfield 19, 3) := by decide +kernel
theorem dX6_set_18 : decode cX6_set 18 = .ok (.bipush 16, 2) := by decide +kernel
theorem dX6_set_20 : decode cX6_set 20 = .ok (.if_icmp .lt 5, 3) := by decide +kernel
theorem dX6_set_25 : decode cX6_set 25 = .ok (.aload_n 0, 1) := by decide +kernel
theorem dX6_set_26 : decode cX6_set 26 = .ok (.getfield 11, 3) := by decide +kernel
theorem dX6_set_29 : decode cX6_set 29 = .ok (.aload_n 0, 1) := by decide +kernel
theorem dX6_set_30 : decode cX6_set 30 = .ok (.getfield 19, 3) := by decide +kernel
theorem dX6_set_33 : decode cX6_set 33 = .ok (.iload_n 1, 1) := by decide +kernel
theorem dX6_set_34 : decode cX6_set 34 = .ok (.iastore, 1) := by decide +kernel
theorem dX6_set_35 : decode cX6_set 35 = .ok (.aload_n 0, 1) := by decide +kernel
theorem dX6_set_36 : decode cX6_set 36 = .ok (.dup, 1) := by decide +kernel
theorem dX6_set_37 : decode cX6_set 37 = .ok (.getfield 19, 3) := by decide +kernel
theorem dX6_set_40 : decode cX6_set 40 = .ok (.iconst 1, 1) := by decide +kernel
theorem dX6_set_41 : decode cX6_set 41 = .ok (.iadd, 1) := by decide +kernel
theorem dX6_set_42 : decode cX6_set 42 = .ok (.putfield 19, 3) := by decide +kernel
theorem dX6_set_45 : decode cX6_set 45 = .ok (.aload_n 0, 1) := by decide +kernel
theorem dX6_set_46 : decode cX6_set 46 = .ok (.getfield 19, 3) := by decide +kernel
theorem dX6_set_49 : decode cX6_set 49 = .ok (.ireturn, 1) := by decide +kernel
theorem dX6_lift_0 : decode cX6_lift 0 = .ok (.aload_n 0, 1) := by decide +kernel
theorem dX6_lift_1 : decode cX6_lift 1 = .ok (.iload_n 1, 1) := by decide +kernel
theorem dX6_lift_2 : decode cX6_lift 2 = .ok (.invokevirtual 15, 3) := by decide +kernel
theorem dX6_lift_5 : decode cX6_lift 5 = .ok (.istore_n 2, 1) := by decide +kernel
theorem dX6_lift_6 : decode cX6_lift 6 = .ok (.iload_n 2, 1) := by decide +kernel
theorem dX6_lift_7 : decode cX6_lift 7 = .ok (.iconst (-1), 1) := by decide +kernel
theorem dX6_lift_8 : decode cX6_lift 8 = .ok (.if_icmp .eq 28, 3) := by decide +kernel
theorem dX6_lift_36 : decode cX6_lift 36 = .ok (.aload_n 0, 1) := by decide +kernel
theorem dX6_lift_37 : decode cX6_lift 37 = .ok (.getfield 19, 3) := by decide +kernel
theorem dX6_lift_40 : decode cX6_lift 40 = .ok (.ireturn, 1) := by decide +kernel
theorem dX8_stop_0 : decode cX8_stop 0 = .ok (.iload_n 1, 1) := by decide +kernel
theorem dX8_stop_1 : decode cX8_stop 1 = .ok (.invokestatic 115, 3) := by decide +kernel
theorem dX8_stop_4 : decode cX8_stop 4 = .ok (.ifCond .ne 5, 3) := by decide +kernel
theorem dX8_stop_9 : decode cX8_stop 9 = .ok (.iload_n 2, 1) := by decide +kernel
theorem dX8_stop_10 : decode cX8_stop 10 = .ok (.ifCond .eq 14, 3) := by decide +kernel
theorem dX8_stop_24 : decode cX8_stop 24 = .ok (.aload_n 0, 1) := by decide +kernel
theorem dX8_stop_25 : decode cX8_stop 25 = .ok (.getfield 44, 3) := by decide +kernel
theorem dX8_stop_28 : decode cX8_stop 28 = .ok (.iload_n 1, 1) := by decide +kernel
theorem dX8_stop_29 : decode cX8_stop 29 = .ok (.invokevirtual 134, 3) := by decide +kernel
theorem dX8_stop_32 : decode cX8_stop 32 = .ok (.ireturn, 1) := by decide +kernel
theorem dX8_stop_13 : decode cX8_stop 13 = .ok (.aload_n 0, 1) := by decide +kernel
theorem dX8_stop_14 : decode cX8_stop 14 = .ok (.getfield 44, 3) := by decide +kernel
theorem dX8_stop_17 : decode cX8_stop 17 = .ok (.iload_n 1, 1) := by decide +kernel
theorem dX8_stop_18 : decode cX8_stop 18 = .ok (.invokevirtual 130, 3) := by decide +kernel
theorem dX8_stop_21 : decode cX8_stop 21 = .ok (.goto 11, 3) := by decide +kernel
theorem dX8_stop_7 : decode cX8_stop 7 = .ok (.iconst (-1), 1) := by decide +kernel
theorem dX8_stop_8 : decode cX8_stop 8 = .ok (.ireturn, 1) := by decide +kernel
theorem dX8_fault_0 : decode cX8_fault 0 = .ok (.iload_n 1, 1) := by decide +kernel
theorem dX8_fault_1 : decode cX8_fault 1 = .ok (.lookupswitch 43 #[(0, 27), (1, 35)], 27) := by decide +kernel
theorem dX8_fault_28 : decode cX8_fault 28 = .ok (.aload_n 0, 1) := by decide +kernel
theorem dX8_fault_29 : decode cX8_fault 29 = .ok (.getfield 60, 3) := by decide +kernel
theorem dX8_fault_32 : decode cX8_fault 32 = .ok (.getfield 99, 3) := by decide +kernel
theorem dX8_fault_35 : decode cX8_fault 35 = .ok (.ireturn, 1) := by decide +kernel
theorem dX8_fault_36 : decode cX8_fault 36 = .ok (.aload_n 0, 1) := by decide +kernel
theorem dX8_fault_37 : decode cX8_fault 37 = .ok (.getfield 60, 3) := by decide +kernel
theorem dX8_fault_40 : decode cX8_fault 40 = .ok (.getfield 102, 3) := by decide +kernel
theorem dX8_fault_43 : decode cX8_fault 43 = .ok (.ireturn, 1) := by decide +kernel
theorem dX8_fault_44 : decode cX8_fault 44 = .ok (.iconst (-1), 1) := by decide +kernel
theorem dX8_fault_45 : decode cX8_fault 45 = .ok (.ireturn, 1) := by decide +kernel
theorem dX2_tell_0 : decode cX2_tell 0 = .ok (.iload_n 1, 1) := by decide +kernel
theorem dX2_tell_1 : decode cX2_tell 1 = .ok (.ifCond .lt 11, 3) := by decide +kernel
theorem dX2_tell_12 : decode cX2_tell 12 = .ok (.iconst 0, 1) := by decide +kernel
theorem dX2_tell_13 : decode cX2_tell 13 = .ok (.ireturn, 1) := by decide +kernel
theorem dX2_tell_4 : decode cX2_tell 4 = .ok (.iload_n 1, 1) := by decide +kernel
theorem dX2_tell_5 : decode cX2_tell 5 = .ok (.aload_n 0, 1) := by decide +kernel
theorem dX2_tell_6 : decode cX2_tell 6 = .ok (.getfield 24, 3) := by decide +kernel
theorem dX2_tell_9 : decode cX2_tell 9 = .ok (.if_icmp .lt 5, 3) := by decide +kernel
theorem dX8_name_0 : decode cX8_name 0 = .ok (.aload_n 0, 1) := by decide +kernel
theorem dX8_name_1 : decode cX8_name 1 = .ok (.getfield 60, 3) := by decide +kernel
theorem dX8_name_4 : decode cX8_name 4 = .ok (.getfield 105, 3) := by decide +kernel
theorem dX8_name_7 : decode cX8_name 7 = .ok (.iload_n 1, 1) := by decide +kernel
theorem dX8_name_8 : decode cX8_name 8 = .ok (.iload_n 2, 1) := by decide +kernel
theorem dX8_name_9 : decode cX8_name 9 = .ok (.invokevirtual 109, 3) := by decide +kernel
theorem dX8_name_12 : decode cX8_name 12 = .ok (.ireturn, 1) := by decide +kernel
theorem dX8_about_0 : decode cX8_about 0 = .ok (.iload_n 1, 1) := by decide +kernel
theorem dX8_about_1 : decode cX8_about 1 = .ok (.iconst 3, 1) := by decide +kernel
theorem dX8_about_2 : decode cX8_about 2 = .ok (.if_icmp .lt 21, 3) := by decide +kernel
theorem dX8_about_23 : decode cX8_about 23 = .ok (.iload_n 1, 1) := by decide +kernel
theorem dX8_about_24 : decode cX8_about 24 = .ok (.tableswitch 111 0 10 #[60, 68, 76, 111, 111, 111, 111, 111, 84, 95, 103], 60) := by decide +kernel
theorem dX8_about_84 : decode cX8_about 84 = .ok (.aload_n 0, 1) := by decide +kernel
theorem dX8_about_85 : decode cX8_about 85 = .ok (.getfield 37, 3) := by decide +kernel
theorem dX8_about_88 : decode cX8_about 88 = .ok (.getfield 158, 3) := by decide +kernel
theorem dX8_about_91 : decode cX8_about 91 = .ok (.ireturn, 1) := by decide +kernel
theorem dX8_about_92 : decode cX8_about 92 = .ok (.aload_n 0, 1) := by decide +kernel
theorem dX8_about_93 : decode cX8_about 93 = .ok (.getfield 37, 3) := by decide +kernel
theorem dX8_about_96 : decode cX8_about 96 = .ok (.getfield 161, 3) := by decide +kernel
theorem dX8_about_99 : decode cX8_about 99 = .ok (.ireturn, 1) := by decide +kernel
theorem dX8_about_100 : decode cX8_about 100 = .ok (.aload_n 0, 1) := by decide +kernel
theorem dX8_about_101 : decode cX8_about 101 = .ok (.getfield 28, 3) := by decide +kernel
theorem dX8_about_104 : decode cX8_about 104 = .ok (.getfield 141, 3) := by decide +kernel
theorem dX8_about_107 : decode cX8_about 107 = .ok (.ireturn, 1) := by decide +kernel
theorem dX8_about_135 : decode cX8_about 135 = .ok (.iconst 0, 1) := by decide +kernel
theorem dX8_about_136 : decode cX8_about 136 = .ok (.ireturn, 1) := by decide +kernel
theorem dX8_about_108 : decode cX8_about 108 = .ok (.aload_n 0, 1) := by decide +kernel
theorem dX8_about_109 : decode cX8_about 109 = .ok (.getfield 60, 3) := by decide +kernel
theorem dX8_about_112 : decode cX8_about 112 = .ok (.getfield 105, 3) := by decide +kernel
theorem dX8_about_115 : decode cX8_about 115 = .ok (.getfield 164, 3) := by decide +kernel
theorem dX8_about_118 : decode cX8_about 118 = .ok (.ireturn, 1) := by decide +kernel
theorem dX8_about_119 : decode cX8_about 119 = .ok (.aload_n 0, 1) := by decide +kernel
theorem dX8_about_120 : decode cX8_about 120 = .ok (.getfield 44, 3) := by decide +kernel
theorem dX8_about_123 : decode cX8_about 123 = .ok (.getfield 167, 3) := by decide +kernel
theorem dX8_about_126 : decode cX8_about 126 = .ok (.ireturn, 1) := by decide +kernel
theorem dX8_about_127 : decode cX8_about 127 = .ok (.aload_n 0, 1) := by decide +kernel
theorem dX8_about_128 : decode cX8_about 128 = .ok (.getfield 51, 3) := by decide +kernel
theorem dX8_about_131 : decode cX8_about 131 = .ok (.getfield 82, 3) := by decide +kernel
theorem dX8_about_134 : decode cX8_about 134 = .ok (.ireturn, 1) := by decide +kernel
theorem dX8_about_5 : decode cX8_about 5 = .ok (.iload_n 1, 1) := by decide +kernel
theorem dX8_about_6 : decode cX8_about 6 = .ok (.bipush 7, 2) := by decide +kernel
theorem dX8_about_8 : decode cX8_about 8 = .ok (.if_icmp .gt 15, 3) := by decide +kernel
theorem dX8_about_11 : decode cX8_about 11 = .ok (.aload_n 0, 1) := by decide +kernel
theorem dX8_about_12 : decode cX8_about 12 = .ok (.getfield 9, 3) := by decide +kernel
theorem dX8_about_15 : decode cX8_about 15 = .ok (.bipush 28, 2) := by decide +kernel
theorem dX8_about_17 : decode cX8_about 17 = .ok (.iload_n 1, 1) := by decide +kernel
theorem dX8_about_18 : decode cX8_about 18 = .ok (.iadd, 1) := by decide +kernel
theorem dX8_about_19 : decode cX8_about 19 = .ok (.iconst 3, 1) := by decide +kernel
theorem dX8_about_20 : decode cX8_about 20 = .ok (.isub, 1) := by decide +kernel
theorem dX8_about_21 : decode cX8_about 21 = .ok (.iaload, 1) := by decide +kernel
theorem dX8_about_22 : decode cX8_about 22 = .ok (.ireturn, 1) := by decide +kernel
theorem dX8_codes_0 : decode cX8_codes 0 = .ok (.iload_n 1, 1) := by decide +kernel
theorem dX8_codes_1 : decode cX8_codes 1 = .ok (.ifCond .lt 22, 3) := by decide +kernel
theorem dX8_codes_23 : decode cX8_codes 23 = .ok (.iconst 0, 1) := by decide +kernel
theorem dX8_codes_24 : decode cX8_codes 24 = .ok (.ireturn, 1) := by decide +kernel
theorem dX8_codes_4 : decode cX8_codes 4 = .ok (.iload_n 1, 1) := by decide +kernel
theorem dX8_codes_5 : decode cX8_codes 5 = .ok (.sipush 256, 3) := by decide +kernel
theorem dX8_codes_8 : decode cX8_codes 8 = .ok (.if_icmp .gt 15, 3) := by decide +kernel
theorem dX8_codes_11 : decode cX8_codes 11 = .ok (.aload_n 0, 1) := by decide +kernel
theorem dX8_codes_12 : decode cX8_codes 12 = .ok (.getfield 37, 3) := by decide +kernel
theorem dX8_codes_15 : decode cX8_codes 15 = .ok (.getfield 144, 3) := by decide +kernel
theorem dX8_codes_18 : decode cX8_codes 18 = .ok (.iload_n 1, 1) := by decide +kernel
theorem dX8_codes_19 : decode cX8_codes 19 = .ok (.iaload, 1) := by decide +kernel
theorem dX8_codes_20 : decode cX8_codes 20 = .ok (.goto 4, 3) := by decide +kernel
theorem dX8_ring_0 : decode cX8_ring 0 = .ok (.iload_n 1, 1) := by decide +kernel
theorem dX8_ring_1 : decode cX8_ring 1 = .ok (.ifCond .lt 23, 3) := by decide +kernel
theorem dX8_ring_24 : decode cX8_ring 24 = .ok (.iconst (-1), 1) := by decide +kernel
theorem dX8_ring_25 : decode cX8_ring 25 = .ok (.ireturn, 1) := by decide +kernel
theorem dX8_ring_4 : decode cX8_ring 4 = .ok (.iload_n 1, 1) := by decide +kernel
theorem dX8_ring_5 : decode cX8_ring 5 = .ok (.aload_n 0, 1) := by decide +kernel
theorem dX8_ring_6 : decode cX8_ring 6 = .ok (.getfield 9, 3) := by decide +kernel
theorem dX8_ring_9 : decode cX8_ring 9 = .ok (.bipush 31, 2) := by decide +kernel
theorem dX8_ring_11 : decode cX8_ring 11 = .ok (.iaload, 1) := by decide +kernel
theorem dX8_ring_12 : decode cX8_ring 12 = .ok (.if_icmp .ge 12, 3) := by decide +kernel
theorem dX8_strip_0 : decode cX8_strip 0 = .ok (.iload_n 1, 1) := by decide +kernel
theorem dX8_strip_1 : decode cX8_strip 1 = .ok (.ifCond .lt 26, 3) := by decide +kernel
theorem dX8_strip_27 : decode cX8_strip 27 = .ok (.iconst (-1), 1) := by decide +kernel
theorem dX8_strip_28 : decode cX8_strip 28 = .ok (.ireturn, 1) := by decide +kernel
theorem dX8_strip_4 : decode cX8_strip 4 = .ok (.iload_n 1, 1) := by decide +kernel
theorem dX8_strip_5 : decode cX8_strip 5 = .ok (.aload_n 0, 1) := by decide +kernel
theorem dX8_strip_6 : decode cX8_strip 6 = .ok (.getfield 9, 3) := by decide +kernel
theorem dX8_strip_9 : decode cX8_strip 9 = .ok (.bipush 32, 2) := by decide +kernel
theorem dX8_strip_11 : decode cX8_strip 11 = .ok (.iaload, 1) := by decide +kernel
theorem dX8_strip_12 : decode cX8_strip 12 = .ok (.if_icmp .ge 15, 3) := by decide +kernel
theorem dX8_out_0 : decode cX8_out 0 = .ok (.iload_n 1, 1) := by decide +kernel
theorem dX8_out_1 : decode cX8_out 1 = .ok (.ifCond .lt 26, 3) := by decide +kernel
theorem dX8_out_27 : decode cX8_out 27 = .ok (.iconst (-1), 1) := by decide +kernel
theorem dX8_out_28 : decode cX8_out 28 = .ok (.ireturn, 1) := by decide +kernel
theorem dX8_out_4 : decode cX8_out 4 = .ok (.iload_n 1, 1) := by decide +kernel
theorem dX8_out_5 : decode cX8_out 5 = .ok (.aload_n 0, 1) := by decide +kernel
theorem dX8_out_6 : decode cX8_out 6 = .ok (.getfield 67, 3) := by decide +kernel
theorem dX8_out_9 : decode cX8_out 9 = .ok (.getfield 177, 3) := by decide +kernel
theorem dX8_out_12 : decode cX8_out 12 = .ok (.if_icmp .ge 15, 3) := by decide +kernel
theorem dX8_back_0 : decode cX8_back 0 = .ok (.iload_n 1, 1) := by decide +kernel
theorem dX8_back_1 : decode cX8_back 1 = .ok (.iconst 1, 1) := by decide +kernel
theorem dX8_back_2 : decode cX8_back 2 = .ok (.if_icmp .lt 14, 3) := by decide +kernel
theorem dX8_back_16 : decode cX8_back 16 = .ok (.iconst (-1), 1) := by decide +kernel
theorem dX8_back_17 : decode cX8_back 17 = .ok (.ireturn, 1) := by decide +kernel
theorem dX8_back_5 : decode cX8_back 5 = .ok (.iload_n 1, 1) := by decide +kernel
theorem dX8_back_6 : decode cX8_back 6 = .ok (.aload_n 0, 1) := by decide +kernel
theorem dX8_back_7 : decode cX8_back 7 = .ok (.getfield 28, 3) := by decide +kernel
theorem dX8_back_10 : decode cX8_back 10 = .ok (.getfield 141, 3) := by decide +kernel
theorem dX8_back_13 : decode cX8_back 13 = .ok (.if_icmp .le 5, 3) := by decide +kernel
theorem dX7_hasRoom_0 : decode cX7_hasRoom 0 = .ok (.aload_n 0, 1) := by decide +kernel
theorem dX7_hasRoom_1 : decode cX7_hasRoom 1 = .ok (.getfield 15, 3) := by decide +kernel
theorem dX7_hasRoom_4 : decode cX7_hasRoom 4 = .ok (.iload_n 1, 1) := by decide +kernel
theorem dX7_hasRoom_5 : decode cX7_hasRoom 5 = .ok (.iadd, 1) := by decide +kernel
theorem dX7_hasRoom_6 : decode cX7_hasRoom 6 = .ok (.sipush 6000, 3) := by decide +kernel
theorem dX7_hasRoom_9 : decode cX7_hasRoom 9 = .ok (.if_icmp .gt 7, 3) := by decide +kernel
theorem dX7_hasRoom_12 : decode cX7_hasRoom 12 = .ok (.iconst 1, 1) := by decide +kernel
theorem dX7_hasRoom_13 : decode cX7_hasRoom 13 = .ok (.goto 4, 3) := by decide +kernel
theorem dX7_hasRoom_17 : decode cX7_hasRoom 17 = .ok (.ireturn, 1) := by decide +kernel
theorem dX7_add_0 : decode cX7_add 0 = .ok (.bipush 24, 2) := by decide +kernel
theorem dX7_add_2 : decode cX7_add 2 = .ok (.istore_n 2, 1) := by decide +kernel
theorem dX7_add_3 : decode cX7_add 3 = .ok (.iload_n 2, 1) := by decide +kernel
theorem dX7_add_4 : decode cX7_add 4 = .ok (.ifCond .lt 45, 3) := by decide +kernel
theorem dX7_add_7 : decode cX7_add 7 = .ok (.aload_n 0, 1) := by decide +kernel
theorem dX7_add_8 : decode cX7_add 8 = .ok (.getfield 15, 3) := by decide +kernel
theorem dX7_add_11 : decode cX7_add 11 = .ok (.sipush 6000, 3) := by decide +kernel
theorem dX7_add_14 : decode cX7_add 14 = .ok (.if_icmp .ge 35, 3) := by decide +kernel
theorem dX7_add_17 : decode cX7_add 17 = .ok (.aload_n 0, 1) := by decide +kernel
theorem dX7_add_18 : decode cX7_add 18 = .ok (.getfield 11, 3) := by decide +kernel
theorem dX7_add_21 : decode cX7_add 21 = .ok (.aload_n 0, 1) := by decide +kernel
theorem dX7_add_22 : decode cX7_add 22 = .ok (.getfield 15, 3) := by decide +kernel
theorem dX7_add_25 : decode cX7_add 25 = .ok (.iload_n 1, 1) := by decide +kernel
theorem dX7_add_26 : decode cX7_add 26 = .ok (.iload_n 2, 1) := by decide +kernel
theorem dX7_add_27 : decode cX7_add 27 = .ok (.ishr, 1) := by decide +kernel
theorem dX7_add_28 : decode cX7_add 28 = .ok (.sipush 255, 3) := by decide +kernel
theorem dX7_add_31 : decode cX7_add 31 = .ok (.iand, 1) := by decide +kernel
theorem dX7_add_32 : decode cX7_add 32 = .ok (.iastore, 1) := by decide +kernel
theorem dX7_add_33 : decode cX7_add 33 = .ok (.aload_n 0, 1) := by decide +kernel
theorem dX7_add_34 : decode cX7_add 34 = .ok (.dup, 1) := by decide +kernel
theorem dX7_add_35 : decode cX7_add 35 = .ok (.getfield 15, 3) := by decide +kernel
theorem dX7_add_38 : decode cX7_add 38 = .ok (.iconst 1, 1) := by decide +kernel
theorem dX7_add_39 : decode cX7_add 39 = .ok (.iadd, 1) := by decide +kernel
theorem dX7_add_40 : decode cX7_add 40 = .ok (.putfield 15, 3) := by decide +kernel
theorem dX7_add_43 : decode cX7_add 43 = .ok (.iinc 2 (-8), 3) := by decide +kernel
theorem dX7_add_46 : decode cX7_add 46 = .ok (.goto (-43), 3) := by decide +kernel
theorem dX7_add_49 : decode cX7_add 49 = .ok (.return_, 1) := by decide +kernel
theorem dX8_feed_0 : decode cX8_feed 0 = .ok (.aload_n 0, 1) := by decide +kernel
theorem dX8_feed_1 : decode cX8_feed 1 = .ok (.getfield 51, 3) := by decide +kernel
theorem dX8_feed_4 : decode cX8_feed 4 = .ok (.bipush 20, 2) := by decide +kernel
theorem dX8_feed_6 : decode cX8_feed 6 = .ok (.invokevirtual 74, 3) := by decide +kernel
theorem dX8_feed_9 : decode cX8_feed 9 = .ok (.ifCond .ne 5, 3) := by decide +kernel
theorem dX8_feed_14 : decode cX8_feed 14 = .ok (.aload_n 0, 1) := by decide +kernel
theorem dX8_feed_15 : decode cX8_feed 15 = .ok (.getfield 51, 3) := by decide +kernel
theorem dX8_feed_18 : decode cX8_feed 18 = .ok (.iload_n 1, 1) := by decide +kernel
theorem dX8_feed_19 : decode cX8_feed 19 = .ok (.invokevirtual 78, 3) := by decide +kernel
theorem dX8_feed_22 : decode cX8_feed 22 = .ok (.aload_n 0, 1) := by decide +kernel
theorem dX8_feed_23 : decode cX8_feed 23 = .ok (.getfield 51, 3) := by decide +kernel
theorem dX8_feed_26 : decode cX8_feed 26 = .ok (.iload_n 2, 1) := by decide +kernel
theorem dX8_feed_27 : decode cX8_feed 27 = .ok (.invokevirtual 78, 3) := by decide +kernel
theorem dX8_feed_30 : decode cX8_feed 30 = .ok (.aload_n 0, 1) := by decide +kernel
theorem dX8_feed_31 : decode cX8_feed 31 = .ok (.getfield 51, 3) := by decide +kernel
theorem dX8_feed_34 : decode cX8_feed 34 = .ok (.iload_n 3, 1) := by decide +kernel
theorem dX8_feed_35 : decode cX8_feed 35 = .ok (.invokevirtual 78, 3) := by decide +kernel
theorem dX8_feed_38 : decode cX8_feed 38 = .ok (.aload_n 0, 1) := by decide +kernel
theorem dX8_feed_39 : decode cX8_feed 39 = .ok (.getfield 51, 3) := by decide +kernel
theorem dX8_feed_42 : decode cX8_feed 42 = .ok (.iload 4, 2) := by decide +kernel
theorem dX8_feed_44 : decode cX8_feed 44 = .ok (.invokevirtual 78, 3) := by decide +kernel
theorem dX8_feed_47 : decode cX8_feed 47 = .ok (.aload_n 0, 1) := by decide +kernel
theorem dX8_feed_48 : decode cX8_feed 48 = .ok (.getfield 51, 3) := by decide +kernel
theorem dX8_feed_51 : decode cX8_feed 51 = .ok (.iload 5, 2) := by decide +kernel
theorem dX8_feed_53 : decode cX8_feed 53 = .ok (.invokevirtual 78, 3) := by decide +kernel
theorem dX8_feed_56 : decode cX8_feed 56 = .ok (.aload_n 0, 1) := by decide +kernel
theorem dX8_feed_57 : decode cX8_feed 57 = .ok (.getfield 51, 3) := by decide +kernel
theorem dX8_feed_60 : decode cX8_feed 60 = .ok (.getfield 82, 3) := by decide +kernel
theorem dX8_feed_63 : decode cX8_feed 63 = .ok (.ireturn, 1) := by decide +kernel
theorem dX1_pinsOfRow_0 : decode cX1_pinsOfRow 0 = .ok (.aload_n 0, 1) := by decide +kernel
theorem dX1_pinsOfRow_1 : decode cX1_pinsOfRow 1 = .ok (.getfield 9, 3) := by decide +kernel
theorem dX1_pinsOfRow_4 : decode cX1_pinsOfRow 4 = .ok (.aload_n 0, 1) := by decide +kernel
theorem dX1_pinsOfRow_5 : decode cX1_pinsOfRow 5 = .ok (.getfield 24, 3) := by decide +kernel
theorem dX1_pinsOfRow_8 : decode cX1_pinsOfRow 8 = .ok (.bipush 14, 2) := by decide +kernel
theorem dX1_pinsOfRow_10 : decode cX1_pinsOfRow 10 = .ok (.iaload, 1) := by decide +kernel
theorem dX1_pinsOfRow_11 : decode cX1_pinsOfRow 11 = .ok (.bipush 64, 2) := by decide +kernel
theorem dX1_pinsOfRow_13 : decode cX1_pinsOfRow 13 = .ok (.irem, 1) := by decide +kernel
theorem dX1_pinsOfRow_14 : decode cX1_pinsOfRow 14 = .ok (.iaload, 1) := by decide +kernel
theorem dX1_pinsOfRow_15 : decode cX1_pinsOfRow 15 = .ok (.ireturn, 1) := by decide +kernel
theorem dX1_keyAt_0 : decode cX1_keyAt 0 = .ok (.iload_n 1, 1) := by decide +kernel
theorem dX1_keyAt_1 : decode cX1_keyAt 1 = .ok (.aload_n 0, 1) := by decide +kernel
theorem dX1_keyAt_2 : decode cX1_keyAt 2 = .ok (.getfield 24, 3) := by decide +kernel
theorem dX1_keyAt_5 : decode cX1_keyAt 5 = .ok (.bipush 19, 2) := by decide +kernel
theorem dX1_keyAt_7 : decode cX1_keyAt 7 = .ok (.iaload, 1) := by decide +kernel
theorem dX1_keyAt_8 : decode cX1_keyAt 8 = .ok (.if_icmp .ge 23, 3) := by decide +kernel
theorem dX1_keyAt_31 : decode cX1_keyAt 31 = .ok (.iconst 0, 1) := by decide +kernel
theorem dX1_keyAt_32 : decode cX1_keyAt 32 = .ok (.ireturn, 1) := by decide +kernel
theorem dX8_device_0 : decode cX8_device 0 = .ok (.iload_n 1, 1) := by decide +kernel
theorem dX8_device_1 : decode cX8_device 1 = .ok (.ifCond .lt 19, 3) := by decide +kernel
theorem dX8_device_20 : decode cX8_device 20 = .ok (.iload_n 1, 1) := by decide +kernel
theorem dX8_device_21 : decode cX8_device 21 = .ok (.bipush 20, 2) := by decide +kernel
theorem dX8_device_23 : decode cX8_device 23 = .ok (.if_icmp .ne 11, 3) := by decide +kernel
theorem dX8_device_34 : decode cX8_device 34 = .ok (.iload_n 1, 1) := by decide +kernel
theorem dX8_device_35 : decode cX8_device 35 = .ok (.bipush 21, 2) := by decide +kernel
theorem dX8_device_37 : decode cX8_device 37 = .ok (.if_icmp .lt 23, 3) := by decide +kernel
theorem dX8_device_60 : decode cX8_device 60 = .ok (.iconst 0, 1) := by decide +kernel
theorem dX8_device_61 : decode cX8_device 61 = .ok (.ireturn, 1) := by decide +kernel
theorem dX8_device_40 : decode cX8_device 40 = .ok (.iload_n 1, 1) := by decide +kernel
theorem dX8_device_41 : decode cX8_device 41 = .ok (.bipush 37, 2) := by decide +kernel
theorem dX8_device_43 : decode cX8_device 43 = .ok (.if_icmp .ge 17, 3) := by decide +kernel
theorem dX8_device_46 : decode cX8_device 46 = .ok (.aload_n 0, 1) := by decide +kernel
theorem dX8_device_47 : decode cX8_device 47 = .ok (.getfield 21, 3) := by decide +kernel
theorem dX8_device_50 : decode cX8_device 50 = .ok (.iload_n 1, 1) := by decide +kernel
theorem dX8_device_51 : decode cX8_device 51 = .ok (.bipush 21, 2) := by decide +kernel
theorem dX8_device_53 : decode cX8_device 53 = .ok (.isub, 1) := by decide +kernel
theorem dX8_device_54 : decode cX8_device 54 = .ok (.invokevirtual 155, 3) := by decide +kernel
theorem dX8_device_57 : decode cX8_device 57 = .ok (.goto 4, 3) := by decide +kernel
theorem dX8_device_26 : decode cX8_device 26 = .ok (.aload_n 0, 1) := by decide +kernel
theorem dX8_device_27 : decode cX8_device 27 = .ok (.getfield 21, 3) := by decide +kernel
theorem dX8_device_30 : decode cX8_device 30 = .ok (.invokevirtual 151, 3) := by decide +kernel
theorem dX8_device_33 : decode cX8_device 33 = .ok (.ireturn, 1) := by decide +kernel
theorem dX8_device_4 : decode cX8_device 4 = .ok (.iload_n 1, 1) := by decide +kernel
theorem dX8_device_5 : decode cX8_device 5 = .ok (.bipush 20, 2) := by decide +kernel
theorem dX8_device_7 : decode cX8_device 7 = .ok (.if_icmp .ge 13, 3) := by decide +kernel
theorem dX8_device_10 : decode cX8_device 10 = .ok (.aload_n 0, 1) := by decide +kernel
theorem dX8_device_11 : decode cX8_device 11 = .ok (.getfield 9, 3) := by decide +kernel
theorem dX8_device_14 : decode cX8_device 14 = .ok (.bipush 8, 2) := by decide +kernel
theorem dX8_device_16 : decode cX8_device 16 = .ok (.iload_n 1, 1) := by decide +kernel
theorem dX8_device_17 : decode cX8_device 17 = .ok (.iadd, 1) := by decide +kernel
theorem dX8_device_18 : decode cX8_device 18 = .ok (.iaload, 1) := by decide +kernel
theorem dX8_device_19 : decode cX8_device 19 = .ok (.ireturn, 1) := by decide +kernel
theorem dX8_restart_0 : decode cX8_restart 0 = .ok (.aload_n 0, 1) := by decide +kernel
theorem dX8_restart_1 : decode cX8_restart 1 = .ok (.getfield 37, 3) := by decide +kernel
theorem dX8_restart_4 : decode cX8_restart 4 = .ok (.invokevirtual 71, 3) := by decide +kernel
theorem dX8_restart_7 : decode cX8_restart 7 = .ok (.return_, 1) := by decide +kernel
/-! what the calls answer on a fresh object, in the class's own cases -/
def isA (a : Int32) : Int32 := if a < 0 then 0 else if 4096 ≤ a then 0 else 1
def isB (v : Int32) : Int32 := if v < 0 then 0 else if 255 < v then 0 else 1
theorem idx_of {x : Int32} {n : Nat} (hn : n < 2 ^ 31) (h0 : ¬ x < 0) (h : ¬ nI n ≤ x) : ∃ j : Nat, j < n ∧ x = nI j := by
  rcases pk_ix x hn with q | q | q
  · exact absurd q h0
  · exact absurd q h
  · exact q
theorem idx_le {x : Int32} {n : Nat} (hn : n < 2 ^ 30) (h0 : ¬ x < 0) (h : ¬ nI n < x) : ∃ j : Nat, j ≤ n ∧ x = nI j := by
  obtain ⟨j, hj, rfl⟩ := nI_of h0
  refine ⟨j, ?_, rfl⟩
  rcases Nat.lt_or_ge n j with q | q
  · exact absurd (nI_lt q hj) h
  · exact q
theorem isA_idx {a : Int32} (h : ¬ isA a = 0) : ∃ j : Nat, j < 4096 ∧ a = nI j := by
  unfold isA at h
  by_cases h0 : a < 0
  · rw [if_pos h0] at h; exact absurd rfl h
  · rw [if_neg h0] at h
    by_cases h1 : (4096 : Int32) ≤ a
    · rw [if_pos h1] at h; exact absurd rfl h
    · exact idx_of (n := 4096) (by decide) h0 h1
def fr_at (j : Nat) : Int32 := if j = 3 then 255 else if j = 5 then 4 else if j = 18 then 1 else 0
def sp_peek (a : Int32) : Int32 := if isA a = 0 then -1 else 0
def sp_poke (a v : Int32) : Int32 := if a < 0 then 0 else if 4080 ≤ a then 0 else if isB v = 0 then 0 else 1
def sp_drum (a v : Int32) : Int32 := if a < 0 then 0 else if 64 ≤ a then 0 else if isB v = 0 then 0 else 1
def sp_register (a : Int32) : Int32 := if a < 0 then 0 else if 7 < a then 0 else if a = 3 then 255 else if a = 5 then 4 else 0
theorem sp_reg_at : ∀ j, j ≤ 7 → fr_at j = if nI j = 3 then 255 else if nI j = 5 then 4 else (0 : Int32) := by decide
def sp_end (a : Int32) : Int32 := if a < 0 then -1 else if a ≤ 0 then a else -1
def sp_key (v : Int32) : Int32 := if isB v = 0 then -1 else 1
def sp_stop (a o : Int32) : Int32 := if isA a = 0 then -1 else if o = 0 then 0 else 1
theorem idx_37 {a : Int32} (h1 : ¬ a < 3) (h2 : ¬ 7 < a) : ∃ j : Nat, 3 ≤ j ∧ j ≤ 7 ∧ a = nI j := by
  have h0 : ¬ a < 0 := fun q => h1 (Int32.lt_trans q (by decide))
  obtain ⟨j, hj, rfl⟩ := idx_le (n := 7) (by decide) h0 h2
  refine ⟨j, ?_, hj, rfl⟩
  rcases Nat.lt_or_ge j 3 with q | q
  · exact absurd (nI_lt q (by decide)) h1
  · exact q
theorem idx_25 {a : Int32} {j : Nat} (h : a = nI j) : 28 + a - 3 = nI (25 + j) := by
  subst h
  show nI 28 + nI j - nI 3 = _
  rw [nI_add, pk_sub (by omega)]
  congr 1
  omega
theorem fr_hi {j : Nat} (h : 19 ≤ j) : (if j = 3 then 255 else if j = 5 then 4 else if j = 18 then 1 else (0 : Int32)) = 0 := by
  rw [if_neg (by omega), if_neg (by omega), if_neg (by omega)]
theorem not_le0 {a : Int32} (h : ¬ a < 1) : ¬ a ≤ 0 := fun q => h (Int32.lt_of_le_of_lt q (by decide))
def sp_device (a : Int32) : Int32 := if a < 0 then 0 else if 20 ≤ a then 0 else if a = 10 then 1 else 0
theorem sp_dev_at : ∀ j, j < 20 → fr_at (8 + j) = if nI j = 10 then 1 else (0 : Int32) := by decide
theorem idx_21 {a : Int32} (h : ¬ a < 21) : 0 ≤ a - 21 := by
  have h0 : ¬ a < 0 := fun q => h (Int32.lt_trans q (by decide))
  obtain ⟨j, hj, rfl⟩ := nI_of h0
  have h2 : 21 ≤ j := by
    rcases Nat.lt_or_ge j 21 with q | q
    · exact absurd (nI_lt q (by decide)) h
    · exact q
  show 0 ≤ nI j - nI 21
  rw [pk_sub h2]
  exact nI_pos' (by omega)
set_option maxHeartbeats 4000000 in
set_option maxRecDepth 100000 in
theorem c_isAddress (l : Launch) (D : va_G) (cA cB : ClassId) (a : Int32)  : CI l yX8_isAddress cX8_isAddress 1 (some .boolean) 0 0 0 0 D cA cB [.int a] [] (fun r W1 => r = (isA a) ∧ W1 = []) := by
  refine mkI (lv0 := [(0, .int a)]) (by decide) (Nat.le_of_ble_eq_true rfl) rfl ?_
  intro p e s m below meth c A ls X hr hlocks hnm hE hA hP hD hS hl
  have hx := X.1
  have hb := X.2.1
  refine lv_iload_n hx hb dX8_isAddress_0 rfl (lv_at hl 0 rfl) ?_
  refine lv_if_lt (tgt := 15) hx hb dX8_isAddress_1 (by decide) (fun c_1 => ?_) (fun c_1 => ?_)
  · skip
    refine lv_iconst (v := 0) hx hb dX8_isAddress_15 (by decide) ?_
    exact endZ X hr rfl hlocks hP hD hS dX8_isAddress_16 ⟨(by unfold isA; rw [if_pos c_1]), rfl⟩
  · skip
    refine lv_iload_n hx hb dX8_isAddress_4 rfl (lv_at hl 0 rfl) ?_
    refine lv_sipush (v := 4096) hx hb dX8_isAddress_5 (by decide) ?_
    refine lv_icmp_ge (tgt := 15) hx hb dX8_isAddress_8 (by decide) (fun c_8 => ?_) (fun c_8 => ?_)
    · skip
      refine lv_iconst (v := 0) hx hb dX8_isAddress_15 (by decide) ?_
      exact endZ X hr rfl hlocks hP hD hS dX8_isAddress_16 ⟨(by unfold isA; rw [if_neg c_1, if_pos c_8]), rfl⟩
    · skip
      refine lv_iconst (v := 1) hx hb dX8_isAddress_11 (by decide) ?_
      refine lv_goto (tgt := 16) hx hb dX8_isAddress_12 (by decide) ?_
      exact endZ X hr rfl hlocks hP hD hS dX8_isAddress_16 ⟨(by unfold isA; rw [if_neg c_1, if_neg c_8]), rfl⟩
set_option maxHeartbeats 4000000 in
set_option maxRecDepth 100000 in
theorem c_isByte (l : Launch) (D : va_G) (cA cB : ClassId) (v : Int32)  : CI l yX8_isByte cX8_isByte 1 (some .boolean) 0 0 0 0 D cA cB [.int v] [] (fun r W1 => r = (isB v) ∧ W1 = []) := by
  refine mkI (lv0 := [(0, .int v)]) (by decide) (Nat.le_of_ble_eq_true rfl) rfl ?_
  intro p e s m below meth c A ls X hr hlocks hnm hE hA hP hD hS hl
  have hx := X.1
  have hb := X.2.1
  refine lv_iload_n hx hb dX8_isByte_0 rfl (lv_at hl 0 rfl) ?_
  refine lv_if_lt (tgt := 15) hx hb dX8_isByte_1 (by decide) (fun c_1 => ?_) (fun c_1 => ?_)
  · skip
    refine lv_iconst (v := 0) hx hb dX8_isByte_15 (by decide) ?_
    exact endZ X hr rfl hlocks hP hD hS dX8_isByte_16 ⟨(by unfold isB; rw [if_pos c_1]), rfl⟩
  · skip
    refine lv_iload_n hx hb dX8_isByte_4 rfl (lv_at hl 0 rfl) ?_
    refine lv_sipush (v := 255) hx hb dX8_isByte_5 (by decide) ?_
    refine lv_icmp_gt (tgt := 15) hx hb dX8_isByte_8 (by decide) (fun c_8 => ?_) (fun c_8 => ?_)
    · skip
      refine lv_iconst (v := 0) hx hb dX8_isByte_15 (by decide) ?_
      exact endZ X hr rfl hlocks hP hD hS dX8_isByte_16 ⟨(by unfold isB; rw [if_neg c_1, if_pos c_8]), rfl⟩
    · skip
      refine lv_iconst (v := 1) hx hb dX8_isByte_11 (by decide) ?_
      refine lv_goto (tgt := 16) hx hb dX8_isByte_12 (by decide) ?_
      exact endZ X hr rfl hlocks hP hD hS dX8_isByte_16 ⟨(by unfold isB; rw [if_neg c_1, if_neg c_8]), rfl⟩
set_option maxHeartbeats 4000000 in
set_option maxRecDepth 100000 in
theorem c_peek (l : Launch) (D : va_G) (cA cB : ClassId) (h0 : Nat) (qn : Nat) (qs : Nat) (qd : Nat) (qp : Nat) (qr : Nat) (qt : Nat) (qa : Nat) (qm : Nat) (qe : Nat) (a : Int32)  : CI l yX8_peek cX8_peek 2 (some .int) 1 20 0 0 D cA cB [.ref h0, .int a] [(h0, .inr (8, [.ref qn, .ref qs, .ref qd, .ref qp, .ref qr, .ref qt, .ref qa, .ref qm, .ref qe])), (qs, .inl (cA, 4096, .inl (fun _ => 0)))] (fun r W1 => r = (sp_peek a)) := by
  refine mkI (lv0 := [(0, .ref h0), (1, .int a)]) (by decide) (Nat.le_of_ble_eq_true rfl) rfl ?_
  intro p e s m below meth c A ls X hr hlocks hnm hE hA hP hD hS hl
  have hx := X.1
  have hb := X.2.1
  refine lv_iload_n hx hb dX8_peek_0 rfl (lv_at hl 1 rfl) ?_
  refine kSi (n3 := 1) (As := [.int a]) (rest := []) X hl.1 hE hP hD hS hA [] [(h0, .inr (8, [.ref qn, .ref qs, .ref qd, .ref qp, .ref qr, .ref qt, .ref qa, .ref qm, .ref qe])), (qs, .inl (cA, 4096, .inl (fun _ => 0)))] [] [0, 1] rfl rfl rfl (by decide) (by decide) (by decide) (c_isAddress l D cA cB a ) w_115 w_116 w_114 w_117 (by decide +kernel) rfl rfl (Nat.le_of_ble_eq_true rfl) ⟨(Nat.le_of_ble_eq_true rfl), (Nat.le_of_ble_eq_true rfl)⟩ ⟨(Nat.le_of_ble_eq_true rfl), (Nat.le_of_ble_eq_true rfl)⟩ dX8_peek_1 (fun r W1 H locs hw hP hD hS => ?_)
  obtain ⟨rfl, rfl⟩ := hw
  have hP : va_P D classes [(h0, .inr (8, [.ref qn, .ref qs, .ref qd, .ref qp, .ref qr, .ref qt, .ref qa, .ref qm, .ref qe])), (qs, .inl (cA, 4096, .inl (fun _ => 0)))] H := hP
  have hD : va_D A [(h0, .inr (8, [.ref qn, .ref qs, .ref qd, .ref qp, .ref qr, .ref qt, .ref qa, .ref qm, .ref qe])), (qs, .inl (cA, 4096, .inl (fun _ => 0)))] := hD
  refine lv_if_eq (tgt := 16) hx hb dX8_peek_4 (by decide) (fun c_4 => ?_) (fun c_4 => ?_)
  · skip
    refine lv_iconst (v := (-1)) hx hb dX8_peek_16 (by decide) ?_
    exact endI X hr hlocks hP hD hS dX8_peek_17 (by unfold sp_peek; rw [if_pos c_4])
  · skip
    obtain ⟨j, hj, ej⟩ := isA_idx c_4
    refine lv_aload_n hx hb dX8_peek_7 rfl (lv_at hl 0 rfl) ?_
    refine k_get (C := RX8) (T := TX8) (N := 9) (ci := 8) (v := .ref qs) X hE hP 0 rfl rfl iX8 1 (by decide) w_66 rfl dX8_peek_8 ?_
    refine lv_iload_n hx hb dX8_peek_11 rfl (lv_at hl 1 rfl) ?_
    refine k_ald (v := 0) X hE hP 1 rfl j ej hj (by decide) rfl dX8_peek_12 ?_
    refine lv_goto (tgt := 17) hx hb dX8_peek_13 (by decide) ?_
    exact endI X hr hlocks hP hD hS dX8_peek_17 (by unfold sp_peek; rw [if_neg c_4])
set_option maxHeartbeats 4000000 in
set_option maxRecDepth 100000 in
theorem c_poke (l : Launch) (D : va_G) (cA cB : ClassId) (h0 : Nat) (qn : Nat) (qs : Nat) (qd : Nat) (qp : Nat) (qr : Nat) (qt : Nat) (qa : Nat) (qm : Nat) (qe : Nat) (qpe : Nat) (a : Int32) (v : Int32)  : CI l yX8_poke cX8_poke 3 (some .boolean) 1 20 0 0 D cA cB [.ref h0, .int a, .int v] [(h0, .inr (8, [.ref qn, .ref qs, .ref qd, .ref qp, .ref qr, .ref qt, .ref qa, .ref qm, .ref qe])), (qs, .inl (cA, 4096, .inl (fun _ => 0))), (qp, .inr (3, [.ref qpe, .int 0, .int 0]))] (fun r W1 => r = (sp_poke a v)) := by
  refine mkI (lv0 := [(0, .ref h0), (1, .int a), (2, .int v)]) (by decide) (Nat.le_of_ble_eq_true rfl) rfl ?_
  intro p e s m below meth c A ls X hr hlocks hnm hE hA hP hD hS hl
  have hx := X.1
  have hb := X.2.1
  refine lv_iload_n hx hb dX8_poke_0 rfl (lv_at hl 1 rfl) ?_
  refine lv_if_lt (tgt := 18) hx hb dX8_poke_1 (by decide) (fun c_1 => ?_) (fun c_1 => ?_)
  · skip
    refine lv_iconst (v := 0) hx hb dX8_poke_18 (by decide) ?_
    exact endZ X hr rfl hlocks hP hD hS dX8_poke_19 (by unfold sp_poke; rw [if_pos c_1])
  · skip
    refine lv_iload_n hx hb dX8_poke_4 rfl (lv_at hl 1 rfl) ?_
    refine lv_sipush (v := 4080) hx hb dX8_poke_5 (by decide) ?_
    refine lv_icmp_ge (tgt := 18) hx hb dX8_poke_8 (by decide) (fun c_8 => ?_) (fun c_8 => ?_)
    · skip
      refine lv_iconst (v := 0) hx hb dX8_poke_18 (by decide) ?_
      exact endZ X hr rfl hlocks hP hD hS dX8_poke_19 (by unfold sp_poke; rw [if_neg c_1, if_pos c_8])
    · skip
      refine lv_iload_n hx hb dX8_poke_11 rfl (lv_at hl 2 rfl) ?_
      refine kSi (n3 := 1) (As := [.int v]) (rest := []) X hl.1 hE hP hD hS hA [] [(h0, .inr (8, [.ref qn, .ref qs, .ref qd, .ref qp, .ref qr, .ref qt, .ref qa, .ref qm, .ref qe])), (qs, .inl (cA, 4096, .inl (fun _ => 0))), (qp, .inr (3, [.ref qpe, .int 0, .int 0]))] [] [0, 1, 2] rfl rfl rfl (by decide) (by decide) (by decide) (c_isByte l D cA cB v ) w_119 w_116 w_118 w_120 (by decide +kernel) rfl rfl (Nat.le_of_ble_eq_true rfl) ⟨(Nat.le_of_ble_eq_true rfl), (Nat.le_of_ble_eq_true rfl)⟩ ⟨(Nat.le_of_ble_eq_true rfl), (Nat.le_of_ble_eq_true rfl)⟩ dX8_poke_12 (fun r W1 H locs hw hP hD hS => ?_)
      obtain ⟨rfl, rfl⟩ := hw
      have hP : va_P D classes [(h0, .inr (8, [.ref qn, .ref qs, .ref qd, .ref qp, .ref qr, .ref qt, .ref qa, .ref qm, .ref qe])), (qs, .inl (cA, 4096, .inl (fun _ => 0))), (qp, .inr (3, [.ref qpe, .int 0, .int 0]))] H := hP
      have hD : va_D A [(h0, .inr (8, [.ref qn, .ref qs, .ref qd, .ref qp, .ref qr, .ref qt, .ref qa, .ref qm, .ref qe])), (qs, .inl (cA, 4096, .inl (fun _ => 0))), (qp, .inr (3, [.ref qpe, .int 0, .int 0]))] := hD
      refine lv_if_ne (tgt := 20) hx hb dX8_poke_15 (by decide) (fun c_15 => ?_) (fun c_15 => ?_)
      · skip
        obtain ⟨j, hj, ej⟩ := idx_of (n := 4080) (by decide) c_1 c_8
        have hj : j < 4096 := by omega
        refine lv_aload_n hx hb dX8_poke_20 rfl (lv_at hl 0 rfl) ?_
        refine k_get (C := RX8) (T := TX8) (N := 9) (ci := 8) (v := .ref qs) X hE hP 0 rfl rfl iX8 1 (by decide) w_66 rfl dX8_poke_21 ?_
        refine lv_iload_n hx hb dX8_poke_24 rfl (lv_at hl 1 rfl) ?_
        refine lv_iload_n hx hb dX8_poke_25 rfl (lv_at hl 2 rfl) ?_
        refine k_ast X hE hP hD hS 1 rfl j ej hj (by decide) [(h0, .inr (8, [.ref qn, .ref qs, .ref qd, .ref qp, .ref qr, .ref qt, .ref qa, .ref qm, .ref qe])), (qs, .inl (cA, 4096, .inl (upd (fun _ => 0) j v))), (qp, .inr (3, [.ref qpe, .int 0, .int 0]))] rfl dX8_poke_26 (fun H locs hP hD hS => ?_)
        refine lv_aload_n hx hb dX8_poke_27 rfl (lv_at hl 0 rfl) ?_
        refine k_get (C := RX8) (T := TX8) (N := 9) (ci := 8) (v := .ref qp) X hE hP 0 rfl rfl iX8 3 (by decide) w_78 rfl dX8_poke_28 ?_
        refine kVv (n3 := 0) (As := []) (rest := []) X hl.1 hE hP hD hS hA [(qp, .inr (3, [.ref qpe, .int 0, .int 0]))] [(h0, .inr (8, [.ref qn, .ref qs, .ref qd, .ref qp, .ref qr, .ref qt, .ref qa, .ref qm, .ref qe])), (qs, .inl (cA, 4096, .inl (upd (fun _ => 0) j v)))] [2] [0, 1] rfl rfl rfl (by decide) (by decide) (by decide) (c_Past_forget l D cA cB qp qpe 0 0 ) w_60 w_61 w_121 w_62 w_63 0 (ci := 3) (T := TX3) (N := 3) rfl rfl (by decide +kernel) rfl rfl (Nat.le_of_ble_eq_true rfl) ⟨(Nat.le_of_ble_eq_true rfl), (Nat.le_of_ble_eq_true rfl)⟩ ⟨(Nat.le_of_ble_eq_true rfl), (Nat.le_of_ble_eq_true rfl)⟩ dX8_poke_31 (fun W1 H locs hw hP hD hS => ?_)
        obtain rfl := hw
        have hP : va_P D classes [(h0, .inr (8, [.ref qn, .ref qs, .ref qd, .ref qp, .ref qr, .ref qt, .ref qa, .ref qm, .ref qe])), (qs, .inl (cA, 4096, .inl (upd (fun _ => 0) j v))), (qp, .inr (3, [.ref qpe, .int 0, .int 0]))] H := hP
        have hD : va_D A [(h0, .inr (8, [.ref qn, .ref qs, .ref qd, .ref qp, .ref qr, .ref qt, .ref qa, .ref qm, .ref qe])), (qs, .inl (cA, 4096, .inl (upd (fun _ => 0) j v))), (qp, .inr (3, [.ref qpe, .int 0, .int 0]))] := hD
        refine lv_iconst (v := 1) hx hb dX8_poke_34 (by decide) ?_
        exact endZ X hr rfl hlocks hP hD hS dX8_poke_35 (by unfold sp_poke; rw [if_neg c_1, if_neg c_8, if_neg c_15])
      · skip
        refine lv_iconst (v := 0) hx hb dX8_poke_18 (by decide) ?_
        exact endZ X hr rfl hlocks hP hD hS dX8_poke_19 (by unfold sp_poke; rw [if_neg c_1, if_neg c_8, if_pos c_15])
set_option maxHeartbeats 4000000 in
set_option maxRecDepth 100000 in
theorem c_drum (l : Launch) (D : va_G) (cA cB : ClassId) (h0 : Nat) (qn : Nat) (qs : Nat) (qd : Nat) (qp : Nat) (qr : Nat) (qt : Nat) (qa : Nat) (qm : Nat) (qe : Nat) (qd1 : Nat) (qd2 : Nat) (qd3 : Nat) (qd4 : Nat) (qpe : Nat) (a : Int32) (v : Int32)  : CI l yX8_drum cX8_drum 3 (some .boolean) 1 20 0 0 D cA cB [.ref h0, .int a, .int v] [(h0, .inr (8, [.ref qn, .ref qs, .ref qd, .ref qp, .ref qr, .ref qt, .ref qa, .ref qm, .ref qe])), (qd, .inr (1, [.ref qn, .ref qd1, .ref qd2, .ref qd3, .ref qd4])), (qd1, .inl (cA, 64, .inl (fun _ => 0))), (qp, .inr (3, [.ref qpe, .int 0, .int 0]))] (fun r W1 => r = (sp_drum a v)) := by
  refine mkI (lv0 := [(0, .ref h0), (1, .int a), (2, .int v)]) (by decide) (Nat.le_of_ble_eq_true rfl) rfl ?_
  intro p e s m below meth c A ls X hr hlocks hnm hE hA hP hD hS hl
  have hx := X.1
  have hb := X.2.1
  refine lv_iload_n hx hb dX8_drum_0 rfl (lv_at hl 1 rfl) ?_
  refine lv_if_lt (tgt := 17) hx hb dX8_drum_1 (by decide) (fun c_1 => ?_) (fun c_1 => ?_)
  · skip
    refine lv_iconst (v := 0) hx hb dX8_drum_17 (by decide) ?_
    exact endZ X hr rfl hlocks hP hD hS dX8_drum_18 (by unfold sp_drum; rw [if_pos c_1])
  · skip
    refine lv_iload_n hx hb dX8_drum_4 rfl (lv_at hl 1 rfl) ?_
    refine lv_bipush (v := 64) hx hb dX8_drum_5 (by decide) ?_
    refine lv_icmp_ge (tgt := 17) hx hb dX8_drum_7 (by decide) (fun c_7 => ?_) (fun c_7 => ?_)
    · skip
      refine lv_iconst (v := 0) hx hb dX8_drum_17 (by decide) ?_
      exact endZ X hr rfl hlocks hP hD hS dX8_drum_18 (by unfold sp_drum; rw [if_neg c_1, if_pos c_7])
    · skip
      refine lv_iload_n hx hb dX8_drum_10 rfl (lv_at hl 2 rfl) ?_
      refine kSi (n3 := 1) (As := [.int v]) (rest := []) X hl.1 hE hP hD hS hA [] [(h0, .inr (8, [.ref qn, .ref qs, .ref qd, .ref qp, .ref qr, .ref qt, .ref qa, .ref qm, .ref qe])), (qd, .inr (1, [.ref qn, .ref qd1, .ref qd2, .ref qd3, .ref qd4])), (qd1, .inl (cA, 64, .inl (fun _ => 0))), (qp, .inr (3, [.ref qpe, .int 0, .int 0]))] [] [0, 1, 2, 3] rfl rfl rfl (by decide) (by decide) (by decide) (c_isByte l D cA cB v ) w_119 w_116 w_118 w_120 (by decide +kernel) rfl rfl (Nat.le_of_ble_eq_true rfl) ⟨(Nat.le_of_ble_eq_true rfl), (Nat.le_of_ble_eq_true rfl)⟩ ⟨(Nat.le_of_ble_eq_true rfl), (Nat.le_of_ble_eq_true rfl)⟩ dX8_drum_11 (fun r W1 H locs hw hP hD hS => ?_)
      obtain ⟨rfl, rfl⟩ := hw
      have hP : va_P D classes [(h0, .inr (8, [.ref qn, .ref qs, .ref qd, .ref qp, .ref qr, .ref qt, .ref qa, .ref qm, .ref qe])), (qd, .inr (1, [.ref qn, .ref qd1, .ref qd2, .ref qd3, .ref qd4])), (qd1, .inl (cA, 64, .inl (fun _ => 0))), (qp, .inr (3, [.ref qpe, .int 0, .int 0]))] H := hP
      have hD : va_D A [(h0, .inr (8, [.ref qn, .ref qs, .ref qd, .ref qp, .ref qr, .ref qt, .ref qa, .ref qm, .ref qe])), (qd, .inr (1, [.ref qn, .ref qd1, .ref qd2, .ref qd3, .ref qd4])), (qd1, .inl (cA, 64, .inl (fun _ => 0))), (qp, .inr (3, [.ref qpe, .int 0, .int 0]))] := hD
      refine lv_if_ne (tgt := 19) hx hb dX8_drum_14 (by decide) (fun c_14 => ?_) (fun c_14 => ?_)
      · skip
        obtain ⟨j, hj, ej⟩ := idx_of (n := 64) (by decide) c_1 c_7
        refine lv_aload_n hx hb dX8_drum_19 rfl (lv_at hl 0 rfl) ?_
        refine k_get (C := RX8) (T := TX8) (N := 9) (ci := 8) (v := .ref qd) X hE hP 0 rfl rfl iX8 2 (by decide) w_73 rfl dX8_drum_20 ?_
        refine k_getN (C := RX1) (T := TX1) (N := 5) (ci := 1) (v := .ref qd1) X hE hP 1 rfl rfl iX1 1 (by decide) nw_0 rfl dX8_drum_23 ?_
        refine lv_iload_n hx hb dX8_drum_26 rfl (lv_at hl 1 rfl) ?_
        refine lv_iload_n hx hb dX8_drum_27 rfl (lv_at hl 2 rfl) ?_
        refine k_ast X hE hP hD hS 2 rfl j ej hj (by decide) [(h0, .inr (8, [.ref qn, .ref qs, .ref qd, .ref qp, .ref qr, .ref qt, .ref qa, .ref qm, .ref qe])), (qd, .inr (1, [.ref qn, .ref qd1, .ref qd2, .ref qd3, .ref qd4])), (qd1, .inl (cA, 64, .inl (upd (fun _ => 0) j v))), (qp, .inr (3, [.ref qpe, .int 0, .int 0]))] rfl dX8_drum_28 (fun H locs hP hD hS => ?_)
        refine lv_aload_n hx hb dX8_drum_29 rfl (lv_at hl 0 rfl) ?_
        refine k_get (C := RX8) (T := TX8) (N := 9) (ci := 8) (v := .ref qp) X hE hP 0 rfl rfl iX8 3 (by decide) w_78 rfl dX8_drum_30 ?_
        refine kVv (n3 := 0) (As := []) (rest := []) X hl.1 hE hP hD hS hA [(qp, .inr (3, [.ref qpe, .int 0, .int 0]))] [(h0, .inr (8, [.ref qn, .ref qs, .ref qd, .ref qp, .ref qr, .ref qt, .ref qa, .ref qm, .ref qe])), (qd, .inr (1, [.ref qn, .ref qd1, .ref qd2, .ref qd3, .ref qd4])), (qd1, .inl (cA, 64, .inl (upd (fun _ => 0) j v)))] [3] [0, 1, 2] rfl rfl rfl (by decide) (by decide) (by decide) (c_Past_forget l D cA cB qp qpe 0 0 ) w_60 w_61 w_121 w_62 w_63 0 (ci := 3) (T := TX3) (N := 3) rfl rfl (by decide +kernel) rfl rfl (Nat.le_of_ble_eq_true rfl) ⟨(Nat.le_of_ble_eq_true rfl), (Nat.le_of_ble_eq_true rfl)⟩ ⟨(Nat.le_of_ble_eq_true rfl), (Nat.le_of_ble_eq_true rfl)⟩ dX8_drum_33 (fun W1 H locs hw hP hD hS => ?_)
        obtain rfl := hw
        have hP : va_P D classes [(h0, .inr (8, [.ref qn, .ref qs, .ref qd, .ref qp, .ref qr, .ref qt, .ref qa, .ref qm, .ref qe])), (qd, .inr (1, [.ref qn, .ref qd1, .ref qd2, .ref qd3, .ref qd4])), (qd1, .inl (cA, 64, .inl (upd (fun _ => 0) j v))), (qp, .inr (3, [.ref qpe, .int 0, .int 0]))] H := hP
        have hD : va_D A [(h0, .inr (8, [.ref qn, .ref qs, .ref qd, .ref qp, .ref qr, .ref qt, .ref qa, .ref qm, .ref qe])), (qd, .inr (1, [.ref qn, .ref qd1, .ref qd2, .ref qd3, .ref qd4])), (qd1, .inl (cA, 64, .inl (upd (fun _ => 0) j v))), (qp, .inr (3, [.ref qpe, .int 0, .int 0]))] := hD
        refine lv_iconst (v := 1) hx hb dX8_drum_36 (by decide) ?_
        exact endZ X hr rfl hlocks hP hD hS dX8_drum_37 (by unfold sp_drum; rw [if_neg c_1, if_neg c_7, if_neg c_14])
      · skip
        refine lv_iconst (v := 0) hx hb dX8_drum_17 (by decide) ?_
        exact endZ X hr rfl hlocks hP hD hS dX8_drum_18 (by unfold sp_drum; rw [if_neg c_1, if_neg c_7, if_pos c_14])
set_option maxHeartbeats 4000000 in
set_option maxRecDepth 100000 in
theorem c_register (l : Launch) (D : va_G) (cA cB : ClassId) (h0 : Nat) (qn : Nat) (qs : Nat) (qd : Nat) (qp : Nat) (qr : Nat) (qt : Nat) (qa : Nat) (qm : Nat) (qe : Nat) (f : Nat → Int32) (a : Int32) (hfr : frn f) : CI l yX8_register cX8_register 2 (some .int) 0 0 0 0 D cA cB [.ref h0, .int a] [(h0, .inr (8, [.ref qn, .ref qs, .ref qd, .ref qp, .ref qr, .ref qt, .ref qa, .ref qm, .ref qe])), (qn, .inl (cA, 34, .inl f))] (fun r W1 => r = (sp_register a)) := by
  refine mkI (lv0 := [(0, .ref h0), (1, .int a)]) (by decide) (Nat.le_of_ble_eq_true rfl) rfl ?_
  intro p e s m below meth c A ls X hr hlocks hnm hE hA hP hD hS hl
  have hx := X.1
  have hb := X.2.1
  refine lv_iload_n hx hb dX8_register_0 rfl (lv_at hl 1 rfl) ?_
  refine lv_if_lt (tgt := 19) hx hb dX8_register_1 (by decide) (fun c_1 => ?_) (fun c_1 => ?_)
  · skip
    refine lv_iconst (v := 0) hx hb dX8_register_19 (by decide) ?_
    exact endI X hr hlocks hP hD hS dX8_register_20 (by unfold sp_register; rw [if_pos c_1])
  · skip
    refine lv_iload_n hx hb dX8_register_4 rfl (lv_at hl 1 rfl) ?_
    refine lv_bipush (v := 7) hx hb dX8_register_5 (by decide) ?_
    refine lv_icmp_gt (tgt := 19) hx hb dX8_register_7 (by decide) (fun c_7 => ?_) (fun c_7 => ?_)
    · skip
      refine lv_iconst (v := 0) hx hb dX8_register_19 (by decide) ?_
      exact endI X hr hlocks hP hD hS dX8_register_20 (by unfold sp_register; rw [if_neg c_1, if_pos c_7])
    · skip
      obtain ⟨j, hj, ej⟩ := idx_le (n := 7) (by decide) c_1 c_7
      refine lv_aload_n hx hb dX8_register_10 rfl (lv_at hl 0 rfl) ?_
      refine k_get (C := RX8) (T := TX8) (N := 9) (ci := 8) (v := .ref qn) X hE hP 0 rfl rfl iX8 0 (by decide) w_65 rfl dX8_register_11 ?_
      refine lv_iload_n hx hb dX8_register_14 rfl (lv_at hl 1 rfl) ?_
      refine k_ald (v := (fr_at j)) X hE hP 1 rfl j ej (by omega) (by decide) ((hfr j (by omega)).trans rfl) dX8_register_15 ?_
      refine lv_goto (tgt := 20) hx hb dX8_register_16 (by decide) ?_
      exact endI X hr hlocks hP hD hS dX8_register_20 (by unfold sp_register; rw [if_neg c_1, if_neg c_7, ej]; exact sp_reg_at j hj)
set_option maxHeartbeats 4000000 in
set_option maxRecDepth 100000 in
theorem c_endc (l : Launch) (D : va_G) (cA cB : ClassId) (h0 : Nat) (qn : Nat) (qs : Nat) (qd : Nat) (qp : Nat) (qr : Nat) (qt : Nat) (qa : Nat) (qm : Nat) (qe : Nat) (qab : Nat) (a : Int32)  : CI l yX8_end cX8_end 2 (some .int) 0 0 0 0 D cA cB [.ref h0, .int a] [(h0, .inr (8, [.ref qn, .ref qs, .ref qd, .ref qp, .ref qr, .ref qt, .ref qa, .ref qm, .ref qe])), (qa, .inr (7, [.ref qab, .int 0, .int 0, .int 0, .int 0, .int 0, .int 0, .int 0, .int 0]))] (fun r W1 => r = (sp_end a)) := by
  refine mkI (lv0 := [(0, .ref h0), (1, .int a)]) (by decide) (Nat.le_of_ble_eq_true rfl) rfl ?_
  intro p e s m below meth c A ls X hr hlocks hnm hE hA hP hD hS hl
  have hx := X.1
  have hb := X.2.1
  refine lv_iload_n hx hb dX8_end_0 rfl (lv_at hl 1 rfl) ?_
  refine lv_if_lt (tgt := 15) hx hb dX8_end_1 (by decide) (fun c_1 => ?_) (fun c_1 => ?_)
  · skip
    refine lv_iconst (v := (-1)) hx hb dX8_end_15 (by decide) ?_
    exact endI X hr hlocks hP hD hS dX8_end_16 (by unfold sp_end; rw [if_pos c_1])
  · skip
    refine lv_iload_n hx hb dX8_end_4 rfl (lv_at hl 1 rfl) ?_
    refine lv_aload_n hx hb dX8_end_5 rfl (lv_at hl 0 rfl) ?_
    refine k_get (C := RX8) (T := TX8) (N := 9) (ci := 8) (v := .ref qa) X hE hP 0 rfl rfl iX8 6 (by decide) w_96 rfl dX8_end_6 ?_
    refine k_getN (C := RX7) (T := TX7) (N := 9) (ci := 7) (v := .int 0) X hE hP 1 rfl rfl iX7 1 (by decide) nw_12 rfl dX8_end_9 ?_
    refine lv_icmp_le (tgt := 17) hx hb dX8_end_12 (by decide) (fun c_12 => ?_) (fun c_12 => ?_)
    · skip
      refine lv_aload_n hx hb dX8_end_17 rfl (lv_at hl 0 rfl) ?_
      refine k_get (C := RX8) (T := TX8) (N := 9) (ci := 8) (v := .ref qa) X hE hP 0 rfl rfl iX8 6 (by decide) w_96 rfl dX8_end_18 ?_
      refine lv_iload_n hx hb dX8_end_21 rfl (lv_at hl 1 rfl) ?_
      refine k_putN (C := RX7) (T := TX7) (N := 9) (ci := 7) (v := .int a) (ty := .int) X hE hP hD hS 1 rfl rfl iX7 tyX7 tyX7_ok nmX7 1 (by decide) nw_12 rfl (by decide +kernel) rfl rfl (Nat.le_of_ble_eq_true rfl) [(h0, .inr (8, [.ref qn, .ref qs, .ref qd, .ref qp, .ref qr, .ref qt, .ref qa, .ref qm, .ref qe])), (qa, .inr (7, [.ref qab, .int a, .int 0, .int 0, .int 0, .int 0, .int 0, .int 0, .int 0]))] rfl dX8_end_22 (fun H locs hP hD hS => ?_)
      refine lv_iload_n hx hb dX8_end_25 rfl (lv_at hl 1 rfl) ?_
      exact endI X hr hlocks hP hD hS dX8_end_26 (by unfold sp_end; rw [if_neg c_1, if_pos c_12])
    · skip
      refine lv_iconst (v := (-1)) hx hb dX8_end_15 (by decide) ?_
      exact endI X hr hlocks hP hD hS dX8_end_16 (by unfold sp_end; rw [if_neg c_1, if_neg c_12])
set_option maxHeartbeats 4000000 in
set_option maxRecDepth 100000 in
theorem c_addKey (l : Launch) (D : va_G) (cA cB : ClassId) (h0 : Nat) (hn : Nat) (h1 : Nat) (h2 : Nat) (h3 : Nat) (h4 : Nat) (f : Nat → Int32) (g : Nat → Int32) (v : Int32) (k33 : f 33 = 0) (k19 : f 19 = 0) (k15 : f 15 = 0) : CV l yX1_addKey cX1_addKey 2 none 0 0 0 0 D cA cB [.ref h0, .int v] [(h0, .inr (1, [.ref hn, .ref h1, .ref h2, .ref h3, .ref h4])), (hn, .inl (cA, 34, .inl f)), (h2, .inl (cA, 16, .inl g))] (fun W1 => W1 = [(h0, .inr (1, [.ref hn, .ref h1, .ref h2, .ref h3, .ref h4])), (hn, .inl (cA, 34, .inl (upd (upd f 19 1) 15 8))), (h2, .inl (cA, 16, .inl (upd g 0 v)))]) := by
  refine mkV (lv0 := [(0, .ref h0), (1, .int v)]) (by decide) (Nat.le_of_ble_eq_true rfl) rfl ?_
  intro p e s m below meth c A ls X hr hlocks hnm hE hA hP hD hS hl
  have hx := X.1
  have hb := X.2.1
  refine lv_aload_n hx hb dX1_addKey_0 rfl (lv_at hl 0 rfl) ?_
  refine k_get (C := RX1) (T := TX1) (N := 5) (ci := 1) (v := .ref h2) X hE hP 0 rfl rfl iX1 2 (by decide) w_19 rfl dX1_addKey_1 ?_
  refine lv_aload_n hx hb dX1_addKey_4 rfl (lv_at hl 0 rfl) ?_
  refine k_get (C := RX1) (T := TX1) (N := 5) (ci := 1) (v := .ref hn) X hE hP 0 rfl rfl iX1 0 (by decide) w_22 rfl dX1_addKey_5 ?_
  refine lv_bipush (v := 33) hx hb dX1_addKey_8 (by decide) ?_
  refine k_ald (v := 0) X hE hP 1 rfl 33 rfl (by decide) (by decide) k33 dX1_addKey_10 ?_
  refine lv_aload_n hx hb dX1_addKey_11 rfl (lv_at hl 0 rfl) ?_
  refine k_get (C := RX1) (T := TX1) (N := 5) (ci := 1) (v := .ref hn) X hE hP 0 rfl rfl iX1 0 (by decide) w_22 rfl dX1_addKey_12 ?_
  refine lv_bipush (v := 19) hx hb dX1_addKey_15 (by decide) ?_
  refine k_ald (v := 0) X hE hP 1 rfl 19 rfl (by decide) (by decide) k19 dX1_addKey_17 ?_
  refine lv_iadd hx hb dX1_addKey_18 ?_
  refine tk (y := 0) (by decide) ?_
  refine lv_bipush (v := 16) hx hb dX1_addKey_19 (by decide) ?_
  refine lv_irem hx hb dX1_addKey_21 (by decide) ?_
  refine tk (y := 0) (by decide) ?_
  refine lv_iload_n hx hb dX1_addKey_22 rfl (lv_at hl 1 rfl) ?_
  refine k_ast X hE hP hD hS 2 rfl 0 rfl (by decide) (by decide) [(h0, .inr (1, [.ref hn, .ref h1, .ref h2, .ref h3, .ref h4])), (hn, .inl (cA, 34, .inl f)), (h2, .inl (cA, 16, .inl (upd g 0 v)))] rfl dX1_addKey_23 (fun H locs hP hD hS => ?_)
  refine lv_aload_n hx hb dX1_addKey_24 rfl (lv_at hl 0 rfl) ?_
  refine k_get (C := RX1) (T := TX1) (N := 5) (ci := 1) (v := .ref hn) X hE hP 0 rfl rfl iX1 0 (by decide) w_22 rfl dX1_addKey_25 ?_
  refine lv_bipush (v := 19) hx hb dX1_addKey_28 (by decide) ?_
  refine lv_dup2_11 hx hb dX1_addKey_30 rfl rfl ?_
  refine k_ald (v := 0) X hE hP 1 rfl 19 rfl (by decide) (by decide) k19 dX1_addKey_31 ?_
  refine lv_iconst (v := 1) hx hb dX1_addKey_32 (by decide) ?_
  refine lv_iadd hx hb dX1_addKey_33 ?_
  refine tk (y := 1) (by decide) ?_
  refine k_ast X hE hP hD hS 1 rfl 19 rfl (by decide) (by decide) [(h0, .inr (1, [.ref hn, .ref h1, .ref h2, .ref h3, .ref h4])), (hn, .inl (cA, 34, .inl (upd f 19 1))), (h2, .inl (cA, 16, .inl (upd g 0 v)))] rfl dX1_addKey_34 (fun H locs hP hD hS => ?_)
  refine lv_aload_n hx hb dX1_addKey_35 rfl (lv_at hl 0 rfl) ?_
  refine k_get (C := RX1) (T := TX1) (N := 5) (ci := 1) (v := .ref hn) X hE hP 0 rfl rfl iX1 0 (by decide) w_22 rfl dX1_addKey_36 ?_
  refine lv_bipush (v := 15) hx hb dX1_addKey_39 (by decide) ?_
  refine lv_dup2_11 hx hb dX1_addKey_41 rfl rfl ?_
  refine k_ald (v := 0) X hE hP 1 rfl 15 rfl (by decide) (by decide) k15 dX1_addKey_42 ?_
  refine lv_bipush (v := 8) hx hb dX1_addKey_43 (by decide) ?_
  refine lv_ior hx hb dX1_addKey_45 ?_
  refine tk (y := 8) (by decide) ?_
  refine k_ast X hE hP hD hS 1 rfl 15 rfl (by decide) (by decide) [(h0, .inr (1, [.ref hn, .ref h1, .ref h2, .ref h3, .ref h4])), (hn, .inl (cA, 34, .inl (upd (upd f 19 1) 15 8))), (h2, .inl (cA, 16, .inl (upd g 0 v)))] rfl dX1_addKey_46 (fun H locs hP hD hS => ?_)
  exact endV X hr hlocks hP hD hS dX1_addKey_47 rfl
set_option maxHeartbeats 4000000 in
set_option maxRecDepth 100000 in
theorem c_key (l : Launch) (D : va_G) (cA cB : ClassId) (h0 : Nat) (qn : Nat) (qs : Nat) (qd : Nat) (qp : Nat) (qr : Nat) (qt : Nat) (qa : Nat) (qm : Nat) (qe : Nat) (f : Nat → Int32) (qd1 : Nat) (qd2 : Nat) (qd3 : Nat) (qd4 : Nat) (qpe : Nat) (v : Int32) (hfr : frn f) : CI l yX8_key cX8_key 2 (some .int) 1 21 0 0 D cA cB [.ref h0, .int v] [(h0, .inr (8, [.ref qn, .ref qs, .ref qd, .ref qp, .ref qr, .ref qt, .ref qa, .ref qm, .ref qe])), (qn, .inl (cA, 34, .inl f)), (qd, .inr (1, [.ref qn, .ref qd1, .ref qd2, .ref qd3, .ref qd4])), (qd2, .inl (cA, 16, .inl (fun _ => 0))), (qp, .inr (3, [.ref qpe, .int 0, .int 0]))] (fun r W1 => r = (sp_key v)) := by
  refine mkI (lv0 := [(0, .ref h0), (1, .int v)]) (by decide) (Nat.le_of_ble_eq_true rfl) rfl ?_
  intro p e s m below meth c A ls X hr hlocks hnm hE hA hP hD hS hl
  have hx := X.1
  have hb := X.2.1
  refine lv_iload_n hx hb dX8_key_0 rfl (lv_at hl 1 rfl) ?_
  refine kSi (n3 := 1) (As := [.int v]) (rest := []) X hl.1 hE hP hD hS hA [] [(h0, .inr (8, [.ref qn, .ref qs, .ref qd, .ref qp, .ref qr, .ref qt, .ref qa, .ref qm, .ref qe])), (qn, .inl (cA, 34, .inl f)), (qd, .inr (1, [.ref qn, .ref qd1, .ref qd2, .ref qd3, .ref qd4])), (qd2, .inl (cA, 16, .inl (fun _ => 0))), (qp, .inr (3, [.ref qpe, .int 0, .int 0]))] [] [0, 1, 2, 3, 4] rfl rfl rfl (by decide) (by decide) (by decide) (c_isByte l D cA cB v ) w_119 w_116 w_118 w_120 (by decide +kernel) rfl rfl (Nat.le_of_ble_eq_true rfl) ⟨(Nat.le_of_ble_eq_true rfl), (Nat.le_of_ble_eq_true rfl)⟩ ⟨(Nat.le_of_ble_eq_true rfl), (Nat.le_of_ble_eq_true rfl)⟩ dX8_key_1 (fun r W1 H locs hw hP hD hS => ?_)
  obtain ⟨rfl, rfl⟩ := hw
  have hP : va_P D classes [(h0, .inr (8, [.ref qn, .ref qs, .ref qd, .ref qp, .ref qr, .ref qt, .ref qa, .ref qm, .ref qe])), (qn, .inl (cA, 34, .inl f)), (qd, .inr (1, [.ref qn, .ref qd1, .ref qd2, .ref qd3, .ref qd4])), (qd2, .inl (cA, 16, .inl (fun _ => 0))), (qp, .inr (3, [.ref qpe, .int 0, .int 0]))] H := hP
  have hD : va_D A [(h0, .inr (8, [.ref qn, .ref qs, .ref qd, .ref qp, .ref qr, .ref qt, .ref qa, .ref qm, .ref qe])), (qn, .inl (cA, 34, .inl f)), (qd, .inr (1, [.ref qn, .ref qd1, .ref qd2, .ref qd3, .ref qd4])), (qd2, .inl (cA, 16, .inl (fun _ => 0))), (qp, .inr (3, [.ref qpe, .int 0, .int 0]))] := hD
  refine lv_if_eq (tgt := 19) hx hb dX8_key_4 (by decide) (fun c_4 => ?_) (fun c_4 => ?_)
  · skip
    refine lv_iconst (v := (-1)) hx hb dX8_key_19 (by decide) ?_
    exact endI X hr hlocks hP hD hS dX8_key_20 (by unfold sp_key; rw [if_pos c_4])
  · skip
    refine lv_aload_n hx hb dX8_key_7 rfl (lv_at hl 0 rfl) ?_
    refine k_get (C := RX8) (T := TX8) (N := 9) (ci := 8) (v := .ref qn) X hE hP 0 rfl rfl iX8 0 (by decide) w_65 rfl dX8_key_8 ?_
    refine lv_bipush (v := 19) hx hb dX8_key_11 (by decide) ?_
    refine k_ald (v := 0) X hE hP 1 rfl 19 rfl (by decide) (by decide) (hfr 19 (by decide)) dX8_key_13 ?_
    refine lv_bipush (v := 16) hx hb dX8_key_14 (by decide) ?_
    refine lv_icmp_lt (tgt := 21) hx hb dX8_key_16 (by decide) (fun c_16 => ?_) (fun c_16 => absurd (by decide) c_16)
    refine lv_aload_n hx hb dX8_key_21 rfl (lv_at hl 0 rfl) ?_
    refine k_get (C := RX8) (T := TX8) (N := 9) (ci := 8) (v := .ref qd) X hE hP 0 rfl rfl iX8 2 (by decide) w_73 rfl dX8_key_22 ?_
    refine lv_iload_n hx hb dX8_key_25 rfl (lv_at hl 1 rfl) ?_
    refine kVv (n3 := 1) (As := [.int v]) (rest := []) X hl.1 hE hP hD hS hA [(qd, .inr (1, [.ref qn, .ref qd1, .ref qd2, .ref qd3, .ref qd4])), (qn, .inl (cA, 34, .inl f)), (qd2, .inl (cA, 16, .inl (fun _ => 0)))] [(h0, .inr (8, [.ref qn, .ref qs, .ref qd, .ref qp, .ref qr, .ref qt, .ref qa, .ref qm, .ref qe])), (qp, .inr (3, [.ref qpe, .int 0, .int 0]))] [2, 1, 3] [0, 4] rfl rfl rfl (by decide) (by decide) (by decide) (c_addKey l D cA cB qd qn qd1 qd2 qd3 qd4 f (fun _ => 0) v (hfr 33 (by decide)) (hfr 19 (by decide)) (hfr 15 (by decide))) w_123 w_69 w_122 w_124 w_125 0 (ci := 1) (T := TX1) (N := 5) rfl rfl (by decide +kernel) rfl rfl (Nat.le_of_ble_eq_true rfl) ⟨(Nat.le_of_ble_eq_true rfl), (Nat.le_of_ble_eq_true rfl)⟩ ⟨(Nat.le_of_ble_eq_true rfl), (Nat.le_of_ble_eq_true rfl)⟩ dX8_key_26 (fun W1 H locs hw hP hD hS => ?_)
    obtain rfl := hw
    have hP : va_P D classes [(h0, .inr (8, [.ref qn, .ref qs, .ref qd, .ref qp, .ref qr, .ref qt, .ref qa, .ref qm, .ref qe])), (qp, .inr (3, [.ref qpe, .int 0, .int 0])), (qd, .inr (1, [.ref qn, .ref qd1, .ref qd2, .ref qd3, .ref qd4])), (qn, .inl (cA, 34, .inl (upd (upd f 19 1) 15 8))), (qd2, .inl (cA, 16, .inl (upd (fun _ => 0) 0 v)))] H := hP
    have hD : va_D A [(h0, .inr (8, [.ref qn, .ref qs, .ref qd, .ref qp, .ref qr, .ref qt, .ref qa, .ref qm, .ref qe])), (qp, .inr (3, [.ref qpe, .int 0, .int 0])), (qd, .inr (1, [.ref qn, .ref qd1, .ref qd2, .ref qd3, .ref qd4])), (qn, .inl (cA, 34, .inl (upd (upd f 19 1) 15 8))), (qd2, .inl (cA, 16, .inl (upd (fun _ => 0) 0 v)))] := hD
    refine lv_aload_n hx hb dX8_key_29 rfl (lv_at hl 0 rfl) ?_
    refine k_get (C := RX8) (T := TX8) (N := 9) (ci := 8) (v := .ref qp) X hE hP 0 rfl rfl iX8 3 (by decide) w_78 rfl dX8_key_30 ?_
    refine kVv (n3 := 0) (As := []) (rest := []) X hl.1 hE hP hD hS hA [(qp, .inr (3, [.ref qpe, .int 0, .int 0]))] [(h0, .inr (8, [.ref qn, .ref qs, .ref qd, .ref qp, .ref qr, .ref qt, .ref qa, .ref qm, .ref qe])), (qd, .inr (1, [.ref qn, .ref qd1, .ref qd2, .ref qd3, .ref qd4])), (qn, .inl (cA, 34, .inl (upd (upd f 19 1) 15 8))), (qd2, .inl (cA, 16, .inl (upd (fun _ => 0) 0 v)))] [1] [0, 2, 3, 4] rfl rfl rfl (by decide) (by decide) (by decide) (c_Past_forget l D cA cB qp qpe 0 0 ) w_60 w_61 w_121 w_62 w_63 0 (ci := 3) (T := TX3) (N := 3) rfl rfl (by decide +kernel) rfl rfl (Nat.le_of_ble_eq_true rfl) ⟨(Nat.le_of_ble_eq_true rfl), (Nat.le_of_ble_eq_true rfl)⟩ ⟨(Nat.le_of_ble_eq_true rfl), (Nat.le_of_ble_eq_true rfl)⟩ dX8_key_33 (fun W1 H locs hw hP hD hS => ?_)
    obtain rfl := hw
    have hP : va_P D classes [(h0, .inr (8, [.ref qn, .ref qs, .ref qd, .ref qp, .ref qr, .ref qt, .ref qa, .ref qm, .ref qe])), (qd, .inr (1, [.ref qn, .ref qd1, .ref qd2, .ref qd3, .ref qd4])), (qn, .inl (cA, 34, .inl (upd (upd f 19 1) 15 8))), (qd2, .inl (cA, 16, .inl (upd (fun _ => 0) 0 v))), (qp, .inr (3, [.ref qpe, .int 0, .int 0]))] H := hP
    have hD : va_D A [(h0, .inr (8, [.ref qn, .ref qs, .ref qd, .ref qp, .ref qr, .ref qt, .ref qa, .ref qm, .ref qe])), (qd, .inr (1, [.ref qn, .ref qd1, .ref qd2, .ref qd3, .ref qd4])), (qn, .inl (cA, 34, .inl (upd (upd f 19 1) 15 8))), (qd2, .inl (cA, 16, .inl (upd (fun _ => 0) 0 v))), (qp, .inr (3, [.ref qpe, .int 0, .int 0]))] := hD
    refine lv_aload_n hx hb dX8_key_36 rfl (lv_at hl 0 rfl) ?_
    refine k_get (C := RX8) (T := TX8) (N := 9) (ci := 8) (v := .ref qn) X hE hP 0 rfl rfl iX8 0 (by decide) w_65 rfl dX8_key_37 ?_
    refine lv_bipush (v := 19) hx hb dX8_key_40 (by decide) ?_
    refine k_ald (v := 1) X hE hP 2 rfl 19 rfl (by decide) (by decide) rfl dX8_key_42 ?_
    exact endI X hr hlocks hP hD hS dX8_key_43 (by unfold sp_key; rw [if_neg c_4])
set_option maxHeartbeats 4000000 in
set_option maxRecDepth 100000 in
theorem c_Stops_find0 (l : Launch) (D : va_G) (cA cB : ClassId) (h0 : Nat) (hp : Nat) (f : Nat → Int32) (a : Int32)  : CI l yX6_find cX6_find 3 (some .int) 0 0 0 0 D cA cB [.ref h0, .int a] [(h0, .inr (6, [.ref hp, .int 0])), (hp, .inl (cA, 16, .inl f))] (fun r W1 => r = (-1) ∧ W1 = [(h0, .inr (6, [.ref hp, .int 0])), (hp, .inl (cA, 16, .inl f))]) := by
  refine mkI (lv0 := [(0, .ref h0), (1, .int a)]) (by decide) (Nat.le_of_ble_eq_true rfl) rfl ?_
  intro p e s m below meth c A ls X hr hlocks hnm hE hA hP hD hS hl
  have hx := X.1
  have hb := X.2.1
  refine lv_iconst (v := 0) hx hb dX6_find_0 (by decide) ?_
  refine lv_istore_n (lv' := [(2, .int 0), (0, .ref h0), (1, .int a)]) hx hb dX6_find_1 rfl hl (by decide) rfl (fun ls hl => ?_)
  refine lv_iload_n hx hb dX6_find_2 rfl (lv_at hl 0 rfl) ?_
  refine lv_aload_n hx hb dX6_find_3 rfl (lv_at hl 1 rfl) ?_
  refine k_get (C := RX6) (T := TX6) (N := 2) (ci := 6) (v := .int 0) X hE hP 0 rfl rfl iX6 1 (by decide) w_126 rfl dX6_find_4 ?_
  refine lv_icmp_ge (tgt := 28) hx hb dX6_find_7 (by decide) (fun c_7 => ?_) (fun c_7 => absurd (by decide) c_7)
  refine lv_iconst (v := (-1)) hx hb dX6_find_28 (by decide) ?_
  exact endI X hr hlocks hP hD hS dX6_find_29 ⟨rfl, rfl⟩
set_option maxHeartbeats 4000000 in
set_option maxRecDepth 100000 in
theorem c_Stops_set0 (l : Launch) (D : va_G) (cA cB : ClassId) (h0 : Nat) (hp : Nat) (f : Nat → Int32) (a : Int32)  : CI l yX6_set cX6_set 2 (some .int) 1 22 0 0 D cA cB [.ref h0, .int a] [(h0, .inr (6, [.ref hp, .int 0])), (hp, .inl (cA, 16, .inl f))] (fun r W1 => r = 1 ∧ W1 = [(h0, .inr (6, [.ref hp, .int 1])), (hp, .inl (cA, 16, .inl (upd f 0 a)))]) := by
  refine mkI (lv0 := [(0, .ref h0), (1, .int a)]) (by decide) (Nat.le_of_ble_eq_true rfl) rfl ?_
  intro p e s m below meth c A ls X hr hlocks hnm hE hA hP hD hS hl
  have hx := X.1
  have hb := X.2.1
  refine lv_aload_n hx hb dX6_set_0 rfl (lv_at hl 0 rfl) ?_
  refine lv_iload_n hx hb dX6_set_1 rfl (lv_at hl 1 rfl) ?_
  refine kVi (n3 := 1) (As := [.int a]) (rest := []) X hl.1 hE hP hD hS hA [(h0, .inr (6, [.ref hp, .int 0])), (hp, .inl (cA, 16, .inl f))] [] [0, 1] [] rfl rfl rfl (by decide) (by decide) (by decide) (c_Stops_find0 l D cA cB h0 hp f a ) w_128 w_87 w_127 w_129 w_130 0 (ci := 6) (T := TX6) (N := 2) rfl rfl (by decide +kernel) rfl rfl (Nat.le_of_ble_eq_true rfl) ⟨(Nat.le_of_ble_eq_true rfl), (Nat.le_of_ble_eq_true rfl)⟩ ⟨(Nat.le_of_ble_eq_true rfl), (Nat.le_of_ble_eq_true rfl)⟩ dX6_set_2 (fun r W1 H locs hw hP hD hS => ?_)
  obtain ⟨rfl, rfl⟩ := hw
  have hP : va_P D classes [(h0, .inr (6, [.ref hp, .int 0])), (hp, .inl (cA, 16, .inl f))] H := hP
  have hD : va_D A [(h0, .inr (6, [.ref hp, .int 0])), (hp, .inl (cA, 16, .inl f))] := hD
  refine lv_iconst (v := (-1)) hx hb dX6_set_5 (by decide) ?_
  refine lv_icmp_eq (tgt := 14) hx hb dX6_set_6 (by decide) (fun c_6 => ?_) (fun c_6 => absurd (by decide) c_6)
  refine lv_aload_n hx hb dX6_set_14 rfl (lv_at hl 0 rfl) ?_
  refine k_get (C := RX6) (T := TX6) (N := 2) (ci := 6) (v := .int 0) X hE hP 0 rfl rfl iX6 1 (by decide) w_126 rfl dX6_set_15 ?_
  refine lv_bipush (v := 16) hx hb dX6_set_18 (by decide) ?_
  refine lv_icmp_lt (tgt := 25) hx hb dX6_set_20 (by decide) (fun c_20 => ?_) (fun c_20 => absurd (by decide) c_20)
  refine lv_aload_n hx hb dX6_set_25 rfl (lv_at hl 0 rfl) ?_
  refine k_get (C := RX6) (T := TX6) (N := 2) (ci := 6) (v := .ref hp) X hE hP 0 rfl rfl iX6 0 (by decide) w_5 rfl dX6_set_26 ?_
  refine lv_aload_n hx hb dX6_set_29 rfl (lv_at hl 0 rfl) ?_
  refine k_get (C := RX6) (T := TX6) (N := 2) (ci := 6) (v := .int 0) X hE hP 0 rfl rfl iX6 1 (by decide) w_126 rfl dX6_set_30 ?_
  refine lv_iload_n hx hb dX6_set_33 rfl (lv_at hl 1 rfl) ?_
  refine k_ast X hE hP hD hS 1 rfl 0 rfl (by decide) (by decide) [(h0, .inr (6, [.ref hp, .int 0])), (hp, .inl (cA, 16, .inl (upd f 0 a)))] rfl dX6_set_34 (fun H locs hP hD hS => ?_)
  refine lv_aload_n hx hb dX6_set_35 rfl (lv_at hl 0 rfl) ?_
  refine lv_dup hx hb dX6_set_36 rfl ?_
  refine k_get (C := RX6) (T := TX6) (N := 2) (ci := 6) (v := .int 0) X hE hP 0 rfl rfl iX6 1 (by decide) w_126 rfl dX6_set_37 ?_
  refine lv_iconst (v := 1) hx hb dX6_set_40 (by decide) ?_
  refine lv_iadd hx hb dX6_set_41 ?_
  refine tk (y := 1) (by decide) ?_
  refine k_put (C := RX6) (T := TX6) (N := 2) (ci := 6) (v := .int 1) (ty := .int) X hE hP hD hS 0 rfl rfl iX6 tyX6 tyX6_ok nmX6 1 (by decide) w_126 rfl (by decide +kernel) rfl rfl (Nat.le_of_ble_eq_true rfl) [(h0, .inr (6, [.ref hp, .int 1])), (hp, .inl (cA, 16, .inl (upd f 0 a)))] rfl dX6_set_42 (fun H locs hP hD hS => ?_)
  refine lv_aload_n hx hb dX6_set_45 rfl (lv_at hl 0 rfl) ?_
  refine k_get (C := RX6) (T := TX6) (N := 2) (ci := 6) (v := .int 1) X hE hP 0 rfl rfl iX6 1 (by decide) w_126 rfl dX6_set_46 ?_
  exact endI X hr hlocks hP hD hS dX6_set_49 ⟨rfl, rfl⟩
set_option maxHeartbeats 4000000 in
set_option maxRecDepth 100000 in
theorem c_Stops_lift0 (l : Launch) (D : va_G) (cA cB : ClassId) (h0 : Nat) (hp : Nat) (f : Nat → Int32) (a : Int32)  : CI l yX6_lift cX6_lift 3 (some .int) 1 22 0 0 D cA cB [.ref h0, .int a] [(h0, .inr (6, [.ref hp, .int 0])), (hp, .inl (cA, 16, .inl f))] (fun r W1 => r = 0 ∧ W1 = [(h0, .inr (6, [.ref hp, .int 0])), (hp, .inl (cA, 16, .inl f))]) := by
  refine mkI (lv0 := [(0, .ref h0), (1, .int a)]) (by decide) (Nat.le_of_ble_eq_true rfl) rfl ?_
  intro p e s m below meth c A ls X hr hlocks hnm hE hA hP hD hS hl
  have hx := X.1
  have hb := X.2.1
  refine lv_aload_n hx hb dX6_lift_0 rfl (lv_at hl 0 rfl) ?_
  refine lv_iload_n hx hb dX6_lift_1 rfl (lv_at hl 1 rfl) ?_
  refine kVi (n3 := 1) (As := [.int a]) (rest := []) X hl.1 hE hP hD hS hA [(h0, .inr (6, [.ref hp, .int 0])), (hp, .inl (cA, 16, .inl f))] [] [0, 1] [] rfl rfl rfl (by decide) (by decide) (by decide) (c_Stops_find0 l D cA cB h0 hp f a ) w_128 w_87 w_127 w_129 w_130 0 (ci := 6) (T := TX6) (N := 2) rfl rfl (by decide +kernel) rfl rfl (Nat.le_of_ble_eq_true rfl) ⟨(Nat.le_of_ble_eq_true rfl), (Nat.le_of_ble_eq_true rfl)⟩ ⟨(Nat.le_of_ble_eq_true rfl), (Nat.le_of_ble_eq_true rfl)⟩ dX6_lift_2 (fun r W1 H locs hw hP hD hS => ?_)
  obtain ⟨rfl, rfl⟩ := hw
  have hP : va_P D classes [(h0, .inr (6, [.ref hp, .int 0])), (hp, .inl (cA, 16, .inl f))] H := hP
  have hD : va_D A [(h0, .inr (6, [.ref hp, .int 0])), (hp, .inl (cA, 16, .inl f))] := hD
  refine lv_istore_n (lv' := [(2, .int (-1)), (0, .ref h0), (1, .int a)]) hx hb dX6_lift_5 rfl hl (by decide) rfl (fun ls hl => ?_)
  refine lv_iload_n hx hb dX6_lift_6 rfl (lv_at hl 0 rfl) ?_
  refine lv_iconst (v := (-1)) hx hb dX6_lift_7 (by decide) ?_
  refine lv_icmp_eq (tgt := 36) hx hb dX6_lift_8 (by decide) (fun c_8 => ?_) (fun c_8 => absurd (by decide) c_8)
  refine lv_aload_n hx hb dX6_lift_36 rfl (lv_at hl 1 rfl) ?_
  refine k_get (C := RX6) (T := TX6) (N := 2) (ci := 6) (v := .int 0) X hE hP 0 rfl rfl iX6 1 (by decide) w_126 rfl dX6_lift_37 ?_
  exact endI X hr hlocks hP hD hS dX6_lift_40 ⟨rfl, rfl⟩
set_option maxHeartbeats 4000000 in
set_option maxRecDepth 100000 in
theorem c_stop (l : Launch) (D : va_G) (cA cB : ClassId) (h0 : Nat) (qn : Nat) (qs : Nat) (qd : Nat) (qp : Nat) (qr : Nat) (qt : Nat) (qa : Nat) (qm : Nat) (qe : Nat) (qtp : Nat) (a : Int32) (o : Int32)  : CI l yX8_stop cX8_stop 3 (some .int) 2 44 0 0 D cA cB [.ref h0, .int a, .int o] [(h0, .inr (8, [.ref qn, .ref qs, .ref qd, .ref qp, .ref qr, .ref qt, .ref qa, .ref qm, .ref qe])), (qt, .inr (6, [.ref qtp, .int 0])), (qtp, .inl (cA, 16, .inl (fun _ => 0)))] (fun r W1 => r = (sp_stop a o)) := by
  refine mkI (lv0 := [(0, .ref h0), (1, .int a), (2, .int o)]) (by decide) (Nat.le_of_ble_eq_true rfl) rfl ?_
  intro p e s m below meth c A ls X hr hlocks hnm hE hA hP hD hS hl
  have hx := X.1
  have hb := X.2.1
  refine lv_iload_n hx hb dX8_stop_0 rfl (lv_at hl 1 rfl) ?_
  refine kSi (n3 := 1) (As := [.int a]) (rest := []) X hl.1 hE hP hD hS hA [] [(h0, .inr (8, [.ref qn, .ref qs, .ref qd, .ref qp, .ref qr, .ref qt, .ref qa, .ref qm, .ref qe])), (qt, .inr (6, [.ref qtp, .int 0])), (qtp, .inl (cA, 16, .inl (fun _ => 0)))] [] [0, 1, 2] rfl rfl rfl (by decide) (by decide) (by decide) (c_isAddress l D cA cB a ) w_115 w_116 w_114 w_117 (by decide +kernel) rfl rfl (Nat.le_of_ble_eq_true rfl) ⟨(Nat.le_of_ble_eq_true rfl), (Nat.le_of_ble_eq_true rfl)⟩ ⟨(Nat.le_of_ble_eq_true rfl), (Nat.le_of_ble_eq_true rfl)⟩ dX8_stop_1 (fun r W1 H locs hw hP hD hS => ?_)
  obtain ⟨rfl, rfl⟩ := hw
  have hP : va_P D classes [(h0, .inr (8, [.ref qn, .ref qs, .ref qd, .ref qp, .ref qr, .ref qt, .ref qa, .ref qm, .ref qe])), (qt, .inr (6, [.ref qtp, .int 0])), (qtp, .inl (cA, 16, .inl (fun _ => 0)))] H := hP
  have hD : va_D A [(h0, .inr (8, [.ref qn, .ref qs, .ref qd, .ref qp, .ref qr, .ref qt, .ref qa, .ref qm, .ref qe])), (qt, .inr (6, [.ref qtp, .int 0])), (qtp, .inl (cA, 16, .inl (fun _ => 0)))] := hD
  refine lv_if_ne (tgt := 9) hx hb dX8_stop_4 (by decide) (fun c_4 => ?_) (fun c_4 => ?_)
  · skip
    refine lv_iload_n hx hb dX8_stop_9 rfl (lv_at hl 2 rfl) ?_
    refine lv_if_eq (tgt := 24) hx hb dX8_stop_10 (by decide) (fun c_10 => ?_) (fun c_10 => ?_)
    · skip
      refine lv_aload_n hx hb dX8_stop_24 rfl (lv_at hl 0 rfl) ?_
      refine k_get (C := RX8) (T := TX8) (N := 9) (ci := 8) (v := .ref qt) X hE hP 0 rfl rfl iX8 5 (by decide) w_90 rfl dX8_stop_25 ?_
      refine lv_iload_n hx hb dX8_stop_28 rfl (lv_at hl 1 rfl) ?_
      refine kVi (n3 := 1) (As := [.int a]) (rest := []) X hl.1 hE hP hD hS hA [(qt, .inr (6, [.ref qtp, .int 0])), (qtp, .inl (cA, 16, .inl (fun _ => 0)))] [(h0, .inr (8, [.ref qn, .ref qs, .ref qd, .ref qp, .ref qr, .ref qt, .ref qa, .ref qm, .ref qe]))] [1, 2] [0] rfl rfl rfl (by decide) (by decide) (by decide) (c_Stops_lift0 l D cA cB qt qtp (fun _ => 0) a ) w_132 w_87 w_131 w_133 w_134 0 (ci := 6) (T := TX6) (N := 2) rfl rfl (by decide +kernel) rfl rfl (Nat.le_of_ble_eq_true rfl) ⟨(Nat.le_of_ble_eq_true rfl), (Nat.le_of_ble_eq_true rfl)⟩ ⟨(Nat.le_of_ble_eq_true rfl), (Nat.le_of_ble_eq_true rfl)⟩ dX8_stop_29 (fun r W1 H locs hw hP hD hS => ?_)
      obtain ⟨rfl, rfl⟩ := hw
      have hP : va_P D classes [(h0, .inr (8, [.ref qn, .ref qs, .ref qd, .ref qp, .ref qr, .ref qt, .ref qa, .ref qm, .ref qe])), (qt, .inr (6, [.ref qtp, .int 0])), (qtp, .inl (cA, 16, .inl (fun _ => 0)))] H := hP
      have hD : va_D A [(h0, .inr (8, [.ref qn, .ref qs, .ref qd, .ref qp, .ref qr, .ref qt, .ref qa, .ref qm, .ref qe])), (qt, .inr (6, [.ref qtp, .int 0])), (qtp, .inl (cA, 16, .inl (fun _ => 0)))] := hD
      exact endI X hr hlocks hP hD hS dX8_stop_32 (by unfold sp_stop; rw [if_neg c_4, if_pos c_10])
    · skip
      refine lv_aload_n hx hb dX8_stop_13 rfl (lv_at hl 0 rfl) ?_
      refine k_get (C := RX8) (T := TX8) (N := 9) (ci := 8) (v := .ref qt) X hE hP 0 rfl rfl iX8 5 (by decide) w_90 rfl dX8_stop_14 ?_
      refine lv_iload_n hx hb dX8_stop_17 rfl (lv_at hl 1 rfl) ?_
      refine kVi (n3 := 1) (As := [.int a]) (rest := []) X hl.1 hE hP hD hS hA [(qt, .inr (6, [.ref qtp, .int 0])), (qtp, .inl (cA, 16, .inl (fun _ => 0)))] [(h0, .inr (8, [.ref qn, .ref qs, .ref qd, .ref qp, .ref qr, .ref qt, .ref qa, .ref qm, .ref qe]))] [1, 2] [0] rfl rfl rfl (by decide) (by decide) (by decide) (c_Stops_set0 l D cA cB qt qtp (fun _ => 0) a ) w_136 w_87 w_135 w_137 w_138 0 (ci := 6) (T := TX6) (N := 2) rfl rfl (by decide +kernel) rfl rfl (Nat.le_of_ble_eq_true rfl) ⟨(Nat.le_of_ble_eq_true rfl), (Nat.le_of_ble_eq_true rfl)⟩ ⟨(Nat.le_of_ble_eq_true rfl), (Nat.le_of_ble_eq_true rfl)⟩ dX8_stop_18 (fun r W1 H locs hw hP hD hS => ?_)
      obtain ⟨rfl, rfl⟩ := hw
      have hP : va_P D classes [(h0, .inr (8, [.ref qn, .ref qs, .ref qd, .ref qp, .ref qr, .ref qt, .ref qa, .ref qm, .ref qe])), (qt, .inr (6, [.ref qtp, .int 1])), (qtp, .inl (cA, 16, .inl (upd (fun _ => 0) 0 a)))] H := hP
      have hD : va_D A [(h0, .inr (8, [.ref qn, .ref qs, .ref qd, .ref qp, .ref qr, .ref qt, .ref qa, .ref qm, .ref qe])), (qt, .inr (6, [.ref qtp, .int 1])), (qtp, .inl (cA, 16, .inl (upd (fun _ => 0) 0 a)))] := hD
      refine lv_goto (tgt := 32) hx hb dX8_stop_21 (by decide) ?_
      exact endI X hr hlocks hP hD hS dX8_stop_32 (by unfold sp_stop; rw [if_neg c_4, if_neg c_10])
  · skip
    refine lv_iconst (v := (-1)) hx hb dX8_stop_7 (by decide) ?_
    exact endI X hr hlocks hP hD hS dX8_stop_8 (by unfold sp_stop; rw [if_pos c_4])
set_option maxHeartbeats 4000000 in
set_option maxRecDepth 100000 in
theorem c_fault (l : Launch) (D : va_G) (cA cB : ClassId) (h0 : Nat) (qn : Nat) (qs : Nat) (qd : Nat) (qp : Nat) (qr : Nat) (qt : Nat) (qa : Nat) (qm : Nat) (qe : Nat) (qmi : Nat) (qmt : Nat) (qms : Nat) (a : Int32)  : CI l yX8_fault cX8_fault 2 (some .int) 0 0 0 0 D cA cB [.ref h0, .int a] [(h0, .inr (8, [.ref qn, .ref qs, .ref qd, .ref qp, .ref qr, .ref qt, .ref qa, .ref qm, .ref qe])), (qm, .inr (0, [.ref qa, .ref qmi, .ref qmt, .ref qms, .int (-1), .int (-1), .int 0, .int 0, .int 0, .int 0, .int 0, .int 0, .int 0, .int 0, .int 0, .int 0, .int 0, .int 0]))] (fun r W1 => r = (-1)) := by
  refine mkI (lv0 := [(0, .ref h0), (1, .int a)]) (by decide) (Nat.le_of_ble_eq_true rfl) rfl ?_
  intro p e s m below meth c A ls X hr hlocks hnm hE hA hP hD hS hl
  have hx := X.1
  have hb := X.2.1
  refine lv_iload_n hx hb dX8_fault_0 rfl (lv_at hl 1 rfl) ?_
  by_cases c_1_1 : a = 0
  · refine lv_lookup (tgt := 28) (off := 27) hx hb dX8_fault_1 (by decide) (by rw [c_1_1]; decide) (by decide) ?_
    refine lv_aload_n hx hb dX8_fault_28 rfl (lv_at hl 0 rfl) ?_
    refine k_get (C := RX8) (T := TX8) (N := 9) (ci := 8) (v := .ref qm) X hE hP 0 rfl rfl iX8 7 (by decide) w_103 rfl dX8_fault_29 ?_
    refine k_getN (C := RX0) (T := TX0) (N := 18) (ci := 0) (v := .int (-1)) X hE hP 1 rfl rfl iX0 4 (by decide) nw_25 rfl dX8_fault_32 ?_
    exact endI X hr hlocks hP hD hS dX8_fault_35 rfl
  · skip
    by_cases c_1_2 : a = 1
    · refine lv_lookup (tgt := 36) (off := 35) hx hb dX8_fault_1 (by decide) (by rw [c_1_2]; decide) (by decide) ?_
      refine lv_aload_n hx hb dX8_fault_36 rfl (lv_at hl 0 rfl) ?_
      refine k_get (C := RX8) (T := TX8) (N := 9) (ci := 8) (v := .ref qm) X hE hP 0 rfl rfl iX8 7 (by decide) w_103 rfl dX8_fault_37 ?_
      refine k_getN (C := RX0) (T := TX0) (N := 18) (ci := 0) (v := .int (-1)) X hE hP 1 rfl rfl iX0 5 (by decide) nw_26 rfl dX8_fault_40 ?_
      exact endI X hr hlocks hP hD hS dX8_fault_43 rfl
    · skip
      refine lv_lookup (tgt := 44) (off := 43) hx hb dX8_fault_1 (by decide) (by show Op.lookupswitch.offset [(0, 27), (1, 35)] 43 a.toInt = 43; rw [lv_osw (k := 0) c_1_1 (by decide), lv_osw (k := 1) c_1_2 (by decide)]; rfl) (by decide) ?_
      refine lv_iconst (v := (-1)) hx hb dX8_fault_44 (by decide) ?_
      exact endI X hr hlocks hP hD hS dX8_fault_45 rfl
set_option maxHeartbeats 4000000 in
set_option maxRecDepth 100000 in
theorem c_Names_tell0 (l : Launch) (D : va_G) (cA cB : ClassId) (h0 : Nat) (h1 : Nat) (h2 : Nat) (h3 : Nat) (h4 : Nat) (a : Int32) (v : Int32)  : CI l yX2_tell cX2_tell 3 (some .int) 0 0 0 0 D cA cB [.ref h0, .int a, .int v] [(h0, .inr (2, [.ref h1, .ref h2, .ref h3, .ref h4, .int 0]))] (fun r W1 => r = 0 ∧ W1 = [(h0, .inr (2, [.ref h1, .ref h2, .ref h3, .ref h4, .int 0]))]) := by
  refine mkI (lv0 := [(0, .ref h0), (1, .int a), (2, .int v)]) (by decide) (Nat.le_of_ble_eq_true rfl) rfl ?_
  intro p e s m below meth c A ls X hr hlocks hnm hE hA hP hD hS hl
  have hx := X.1
  have hb := X.2.1
  refine lv_iload_n hx hb dX2_tell_0 rfl (lv_at hl 1 rfl) ?_
  refine lv_if_lt (tgt := 12) hx hb dX2_tell_1 (by decide) (fun c_1 => ?_) (fun c_1 => ?_)
  · skip
    refine lv_iconst (v := 0) hx hb dX2_tell_12 (by decide) ?_
    exact endI X hr hlocks hP hD hS dX2_tell_13 ⟨rfl, rfl⟩
  · skip
    refine lv_iload_n hx hb dX2_tell_4 rfl (lv_at hl 1 rfl) ?_
    refine lv_aload_n hx hb dX2_tell_5 rfl (lv_at hl 0 rfl) ?_
    refine k_get (C := RX2) (T := TX2) (N := 5) (ci := 2) (v := .int 0) X hE hP 0 rfl rfl iX2 4 (by decide) w_139 rfl dX2_tell_6 ?_
    refine lv_icmp_lt (tgt := 14) hx hb dX2_tell_9 (by decide) (fun c_9 => absurd c_9 c_1) (fun c_9 => ?_)
    refine lv_iconst (v := 0) hx hb dX2_tell_12 (by decide) ?_
    exact endI X hr hlocks hP hD hS dX2_tell_13 ⟨rfl, rfl⟩
set_option maxHeartbeats 4000000 in
set_option maxRecDepth 100000 in
theorem c_name (l : Launch) (D : va_G) (cA cB : ClassId) (h0 : Nat) (qn : Nat) (qs : Nat) (qd : Nat) (qp : Nat) (qr : Nat) (qt : Nat) (qa : Nat) (qm : Nat) (qe : Nat) (qmi : Nat) (qmt : Nat) (qms : Nat) (qmsa : Nat) (qmsb : Nat) (qmsc : Nat) (qmsd : Nat) (a : Int32) (v : Int32)  : CI l yX8_name cX8_name 3 (some .int) 1 22 0 0 D cA cB [.ref h0, .int a, .int v] [(h0, .inr (8, [.ref qn, .ref qs, .ref qd, .ref qp, .ref qr, .ref qt, .ref qa, .ref qm, .ref qe])), (qm, .inr (0, [.ref qa, .ref qmi, .ref qmt, .ref qms, .int (-1), .int (-1), .int 0, .int 0, .int 0, .int 0, .int 0, .int 0, .int 0, .int 0, .int 0, .int 0, .int 0, .int 0])), (qms, .inr (2, [.ref qmsa, .ref qmsb, .ref qmsc, .ref qmsd, .int 0]))] (fun r W1 => r = 0) := by
  refine mkI (lv0 := [(0, .ref h0), (1, .int a), (2, .int v)]) (by decide) (Nat.le_of_ble_eq_true rfl) rfl ?_
  intro p e s m below meth c A ls X hr hlocks hnm hE hA hP hD hS hl
  have hx := X.1
  have hb := X.2.1
  refine lv_aload_n hx hb dX8_name_0 rfl (lv_at hl 0 rfl) ?_
  refine k_get (C := RX8) (T := TX8) (N := 9) (ci := 8) (v := .ref qm) X hE hP 0 rfl rfl iX8 7 (by decide) w_103 rfl dX8_name_1 ?_
  refine k_getN (C := RX0) (T := TX0) (N := 18) (ci := 0) (v := .ref qms) X hE hP 1 rfl rfl iX0 3 (by decide) nw_24 rfl dX8_name_4 ?_
  refine lv_iload_n hx hb dX8_name_7 rfl (lv_at hl 1 rfl) ?_
  refine lv_iload_n hx hb dX8_name_8 rfl (lv_at hl 2 rfl) ?_
  refine kVi (n3 := 2) (As := [.int a, .int v]) (rest := []) X hl.1 hE hP hD hS hA [(qms, .inr (2, [.ref qmsa, .ref qmsb, .ref qmsc, .ref qmsd, .int 0]))] [(h0, .inr (8, [.ref qn, .ref qs, .ref qd, .ref qp, .ref qr, .ref qt, .ref qa, .ref qm, .ref qe])), (qm, .inr (0, [.ref qa, .ref qmi, .ref qmt, .ref qms, .int (-1), .int (-1), .int 0, .int 0, .int 0, .int 0, .int 0, .int 0, .int 0, .int 0, .int 0, .int 0, .int 0, .int 0]))] [2] [0, 1] rfl rfl rfl (by decide) (by decide) (by decide) (c_Names_tell0 l D cA cB qms qmsa qmsb qmsc qmsd a v ) w_141 w_33 w_140 w_142 w_143 0 (ci := 2) (T := TX2) (N := 5) rfl rfl (by decide +kernel) rfl rfl (Nat.le_of_ble_eq_true rfl) ⟨(Nat.le_of_ble_eq_true rfl), (Nat.le_of_ble_eq_true rfl)⟩ ⟨(Nat.le_of_ble_eq_true rfl), (Nat.le_of_ble_eq_true rfl)⟩ dX8_name_9 (fun r W1 H locs hw hP hD hS => ?_)
  obtain ⟨rfl, rfl⟩ := hw
  have hP : va_P D classes [(h0, .inr (8, [.ref qn, .ref qs, .ref qd, .ref qp, .ref qr, .ref qt, .ref qa, .ref qm, .ref qe])), (qm, .inr (0, [.ref qa, .ref qmi, .ref qmt, .ref qms, .int (-1), .int (-1), .int 0, .int 0, .int 0, .int 0, .int 0, .int 0, .int 0, .int 0, .int 0, .int 0, .int 0, .int 0])), (qms, .inr (2, [.ref qmsa, .ref qmsb, .ref qmsc, .ref qmsd, .int 0]))] H := hP
  have hD : va_D A [(h0, .inr (8, [.ref qn, .ref qs, .ref qd, .ref qp, .ref qr, .ref qt, .ref qa, .ref qm, .ref qe])), (qm, .inr (0, [.ref qa, .ref qmi, .ref qmt, .ref qms, .int (-1), .int (-1), .int 0, .int 0, .int 0, .int 0, .int 0, .int 0, .int 0, .int 0, .int 0, .int 0, .int 0, .int 0])), (qms, .inr (2, [.ref qmsa, .ref qmsb, .ref qmsc, .ref qmsd, .int 0]))] := hD
  exact endI X hr hlocks hP hD hS dX8_name_12 rfl
set_option maxHeartbeats 4000000 in
set_option maxRecDepth 100000 in
theorem c_about (l : Launch) (D : va_G) (cA cB : ClassId) (h0 : Nat) (qn : Nat) (qs : Nat) (qd : Nat) (qp : Nat) (qr : Nat) (qt : Nat) (qa : Nat) (qm : Nat) (qe : Nat) (f : Nat → Int32) (qpe : Nat) (qrc : Nat) (qtp : Nat) (qab : Nat) (qmi : Nat) (qmt : Nat) (qms : Nat) (qmsa : Nat) (qmsb : Nat) (qmsc : Nat) (qmsd : Nat) (a : Int32) (hfr : frn f) : CI l yX8_about cX8_about 2 (some .int) 0 0 0 0 D cA cB [.ref h0, .int a] [(h0, .inr (8, [.ref qn, .ref qs, .ref qd, .ref qp, .ref qr, .ref qt, .ref qa, .ref qm, .ref qe])), (qn, .inl (cA, 34, .inl f)), (qp, .inr (3, [.ref qpe, .int 0, .int 0])), (qr, .inr (4, [.ref qn, .ref qs, .ref qd, .ref qp, .ref qrc, .int 0, .int 0])), (qt, .inr (6, [.ref qtp, .int 0])), (qa, .inr (7, [.ref qab, .int 0, .int 0, .int 0, .int 0, .int 0, .int 0, .int 0, .int 0])), (qm, .inr (0, [.ref qa, .ref qmi, .ref qmt, .ref qms, .int (-1), .int (-1), .int 0, .int 0, .int 0, .int 0, .int 0, .int 0, .int 0, .int 0, .int 0, .int 0, .int 0, .int 0])), (qms, .inr (2, [.ref qmsa, .ref qmsb, .ref qmsc, .ref qmsd, .int 0]))] (fun r W1 => r = 0) := by
  refine mkI (lv0 := [(0, .ref h0), (1, .int a)]) (by decide) (Nat.le_of_ble_eq_true rfl) rfl ?_
  intro p e s m below meth c A ls X hr hlocks hnm hE hA hP hD hS hl
  have hx := X.1
  have hb := X.2.1
  refine lv_iload_n hx hb dX8_about_0 rfl (lv_at hl 1 rfl) ?_
  refine lv_iconst (v := 3) hx hb dX8_about_1 (by decide) ?_
  refine lv_icmp_lt (tgt := 23) hx hb dX8_about_2 (by decide) (fun c_2 => ?_) (fun c_2 => ?_)
  · skip
    refine lv_iload_n hx hb dX8_about_23 rfl (lv_at hl 1 rfl) ?_
    by_cases c_24_1 : a = 0
    · refine lv_tableIn (tgt := 84) (off := 60) hx hb dX8_about_24 (by rw [c_24_1]; decide) (by rw [c_24_1]; decide) (by rw [c_24_1]; decide) (by decide) ?_
      refine lv_aload_n hx hb dX8_about_84 rfl (lv_at hl 0 rfl) ?_
      refine k_get (C := RX8) (T := TX8) (N := 9) (ci := 8) (v := .ref qr) X hE hP 0 rfl rfl iX8 4 (by decide) w_84 rfl dX8_about_85 ?_
      refine k_getN (C := RX4) (T := TX4) (N := 7) (ci := 4) (v := .int 0) X hE hP 3 rfl rfl iX4 5 (by decide) nw_6 rfl dX8_about_88 ?_
      exact endI X hr hlocks hP hD hS dX8_about_91 rfl
    · skip
      by_cases c_24_2 : a = 1
      · refine lv_tableIn (tgt := 92) (off := 68) hx hb dX8_about_24 (by rw [c_24_2]; decide) (by rw [c_24_2]; decide) (by rw [c_24_2]; decide) (by decide) ?_
        refine lv_aload_n hx hb dX8_about_92 rfl (lv_at hl 0 rfl) ?_
        refine k_get (C := RX8) (T := TX8) (N := 9) (ci := 8) (v := .ref qr) X hE hP 0 rfl rfl iX8 4 (by decide) w_84 rfl dX8_about_93 ?_
        refine k_getN (C := RX4) (T := TX4) (N := 7) (ci := 4) (v := .int 0) X hE hP 3 rfl rfl iX4 6 (by decide) nw_7 rfl dX8_about_96 ?_
        exact endI X hr hlocks hP hD hS dX8_about_99 rfl
      · skip
        by_cases c_24_3 : a = 2
        · refine lv_tableIn (tgt := 100) (off := 76) hx hb dX8_about_24 (by rw [c_24_3]; decide) (by rw [c_24_3]; decide) (by rw [c_24_3]; decide) (by decide) ?_
          refine lv_aload_n hx hb dX8_about_100 rfl (lv_at hl 0 rfl) ?_
          refine k_get (C := RX8) (T := TX8) (N := 9) (ci := 8) (v := .ref qp) X hE hP 0 rfl rfl iX8 3 (by decide) w_78 rfl dX8_about_101 ?_
          refine k_getN (C := RX3) (T := TX3) (N := 3) (ci := 3) (v := .int 0) X hE hP 2 rfl rfl iX3 2 (by decide) nw_4 rfl dX8_about_104 ?_
          exact endI X hr hlocks hP hD hS dX8_about_107 rfl
        · skip
          by_cases c_24_4 : a = 3
          · refine lv_tableIn (tgt := 135) (off := 111) hx hb dX8_about_24 (by rw [c_24_4]; decide) (by rw [c_24_4]; decide) (by rw [c_24_4]; decide) (by decide) ?_
            refine lv_iconst (v := 0) hx hb dX8_about_135 (by decide) ?_
            exact endI X hr hlocks hP hD hS dX8_about_136 rfl
          · skip
            by_cases c_24_5 : a = 4
            · refine lv_tableIn (tgt := 135) (off := 111) hx hb dX8_about_24 (by rw [c_24_5]; decide) (by rw [c_24_5]; decide) (by rw [c_24_5]; decide) (by decide) ?_
              refine lv_iconst (v := 0) hx hb dX8_about_135 (by decide) ?_
              exact endI X hr hlocks hP hD hS dX8_about_136 rfl
            · skip
              by_cases c_24_6 : a = 5
              · refine lv_tableIn (tgt := 135) (off := 111) hx hb dX8_about_24 (by rw [c_24_6]; decide) (by rw [c_24_6]; decide) (by rw [c_24_6]; decide) (by decide) ?_
                refine lv_iconst (v := 0) hx hb dX8_about_135 (by decide) ?_
                exact endI X hr hlocks hP hD hS dX8_about_136 rfl
              · skip
                by_cases c_24_7 : a = 6
                · refine lv_tableIn (tgt := 135) (off := 111) hx hb dX8_about_24 (by rw [c_24_7]; decide) (by rw [c_24_7]; decide) (by rw [c_24_7]; decide) (by decide) ?_
                  refine lv_iconst (v := 0) hx hb dX8_about_135 (by decide) ?_
                  exact endI X hr hlocks hP hD hS dX8_about_136 rfl
                · skip
                  by_cases c_24_8 : a = 7
                  · refine lv_tableIn (tgt := 135) (off := 111) hx hb dX8_about_24 (by rw [c_24_8]; decide) (by rw [c_24_8]; decide) (by rw [c_24_8]; decide) (by decide) ?_
                    refine lv_iconst (v := 0) hx hb dX8_about_135 (by decide) ?_
                    exact endI X hr hlocks hP hD hS dX8_about_136 rfl
                  · skip
                    by_cases c_24_9 : a = 8
                    · refine lv_tableIn (tgt := 108) (off := 84) hx hb dX8_about_24 (by rw [c_24_9]; decide) (by rw [c_24_9]; decide) (by rw [c_24_9]; decide) (by decide) ?_
                      refine lv_aload_n hx hb dX8_about_108 rfl (lv_at hl 0 rfl) ?_
                      refine k_get (C := RX8) (T := TX8) (N := 9) (ci := 8) (v := .ref qm) X hE hP 0 rfl rfl iX8 7 (by decide) w_103 rfl dX8_about_109 ?_
                      refine k_getN (C := RX0) (T := TX0) (N := 18) (ci := 0) (v := .ref qms) X hE hP 6 rfl rfl iX0 3 (by decide) nw_24 rfl dX8_about_112 ?_
                      refine k_getN (C := RX2) (T := TX2) (N := 5) (ci := 2) (v := .int 0) X hE hP 7 rfl rfl iX2 4 (by decide) nw_23 rfl dX8_about_115 ?_
                      exact endI X hr hlocks hP hD hS dX8_about_118 rfl
                    · skip
                      by_cases c_24_10 : a = 9
                      · refine lv_tableIn (tgt := 119) (off := 95) hx hb dX8_about_24 (by rw [c_24_10]; decide) (by rw [c_24_10]; decide) (by rw [c_24_10]; decide) (by decide) ?_
                        refine lv_aload_n hx hb dX8_about_119 rfl (lv_at hl 0 rfl) ?_
                        refine k_get (C := RX8) (T := TX8) (N := 9) (ci := 8) (v := .ref qt) X hE hP 0 rfl rfl iX8 5 (by decide) w_90 rfl dX8_about_120 ?_
                        refine k_getN (C := RX6) (T := TX6) (N := 2) (ci := 6) (v := .int 0) X hE hP 4 rfl rfl iX6 1 (by decide) nw_9 rfl dX8_about_123 ?_
                        exact endI X hr hlocks hP hD hS dX8_about_126 rfl
                      · skip
                        by_cases c_24_11 : a = 10
                        · refine lv_tableIn (tgt := 127) (off := 103) hx hb dX8_about_24 (by rw [c_24_11]; decide) (by rw [c_24_11]; decide) (by rw [c_24_11]; decide) (by decide) ?_
                          refine lv_aload_n hx hb dX8_about_127 rfl (lv_at hl 0 rfl) ?_
                          refine k_get (C := RX8) (T := TX8) (N := 9) (ci := 8) (v := .ref qa) X hE hP 0 rfl rfl iX8 6 (by decide) w_96 rfl dX8_about_128 ?_
                          refine k_getN (C := RX7) (T := TX7) (N := 9) (ci := 7) (v := .int 0) X hE hP 5 rfl rfl iX7 1 (by decide) nw_12 rfl dX8_about_131 ?_
                          exact endI X hr hlocks hP hD hS dX8_about_134 rfl
                        · skip
                          refine lv_tableOut (tgt := 135) hx hb dX8_about_24 (by have n_0 := lv_neT (k := 0) (a := 0) c_24_1 (by decide); have n_1 := lv_neT (k := 1) (a := 1) c_24_2 (by decide); have n_2 := lv_neT (k := 2) (a := 2) c_24_3 (by decide); have n_3 := lv_neT (k := 3) (a := 3) c_24_4 (by decide); have n_4 := lv_neT (k := 4) (a := 4) c_24_5 (by decide); have n_5 := lv_neT (k := 5) (a := 5) c_24_6 (by decide); have n_6 := lv_neT (k := 6) (a := 6) c_24_7 (by decide); have n_7 := lv_neT (k := 7) (a := 7) c_24_8 (by decide); have n_8 := lv_neT (k := 8) (a := 8) c_24_9 (by decide); have n_9 := lv_neT (k := 9) (a := 9) c_24_10 (by decide); have n_10 := lv_neT (k := 10) (a := 10) c_24_11 (by decide); omega) (by decide) ?_
                          refine lv_iconst (v := 0) hx hb dX8_about_135 (by decide) ?_
                          exact endI X hr hlocks hP hD hS dX8_about_136 rfl
  · skip
    refine lv_iload_n hx hb dX8_about_5 rfl (lv_at hl 1 rfl) ?_
    refine lv_bipush (v := 7) hx hb dX8_about_6 (by decide) ?_
    refine lv_icmp_gt (tgt := 23) hx hb dX8_about_8 (by decide) (fun c_8 => ?_) (fun c_8 => ?_)
    · skip
      refine lv_iload_n hx hb dX8_about_23 rfl (lv_at hl 1 rfl) ?_
      by_cases c_24_12 : a = 0
      · refine lv_tableIn (tgt := 84) (off := 60) hx hb dX8_about_24 (by rw [c_24_12]; decide) (by rw [c_24_12]; decide) (by rw [c_24_12]; decide) (by decide) ?_
        refine lv_aload_n hx hb dX8_about_84 rfl (lv_at hl 0 rfl) ?_
        refine k_get (C := RX8) (T := TX8) (N := 9) (ci := 8) (v := .ref qr) X hE hP 0 rfl rfl iX8 4 (by decide) w_84 rfl dX8_about_85 ?_
        refine k_getN (C := RX4) (T := TX4) (N := 7) (ci := 4) (v := .int 0) X hE hP 3 rfl rfl iX4 5 (by decide) nw_6 rfl dX8_about_88 ?_
        exact endI X hr hlocks hP hD hS dX8_about_91 rfl
      · skip
        by_cases c_24_13 : a = 1
        · refine lv_tableIn (tgt := 92) (off := 68) hx hb dX8_about_24 (by rw [c_24_13]; decide) (by rw [c_24_13]; decide) (by rw [c_24_13]; decide) (by decide) ?_
          refine lv_aload_n hx hb dX8_about_92 rfl (lv_at hl 0 rfl) ?_
          refine k_get (C := RX8) (T := TX8) (N := 9) (ci := 8) (v := .ref qr) X hE hP 0 rfl rfl iX8 4 (by decide) w_84 rfl dX8_about_93 ?_
          refine k_getN (C := RX4) (T := TX4) (N := 7) (ci := 4) (v := .int 0) X hE hP 3 rfl rfl iX4 6 (by decide) nw_7 rfl dX8_about_96 ?_
          exact endI X hr hlocks hP hD hS dX8_about_99 rfl
        · skip
          by_cases c_24_14 : a = 2
          · refine lv_tableIn (tgt := 100) (off := 76) hx hb dX8_about_24 (by rw [c_24_14]; decide) (by rw [c_24_14]; decide) (by rw [c_24_14]; decide) (by decide) ?_
            refine lv_aload_n hx hb dX8_about_100 rfl (lv_at hl 0 rfl) ?_
            refine k_get (C := RX8) (T := TX8) (N := 9) (ci := 8) (v := .ref qp) X hE hP 0 rfl rfl iX8 3 (by decide) w_78 rfl dX8_about_101 ?_
            refine k_getN (C := RX3) (T := TX3) (N := 3) (ci := 3) (v := .int 0) X hE hP 2 rfl rfl iX3 2 (by decide) nw_4 rfl dX8_about_104 ?_
            exact endI X hr hlocks hP hD hS dX8_about_107 rfl
          · skip
            by_cases c_24_15 : a = 3
            · refine lv_tableIn (tgt := 135) (off := 111) hx hb dX8_about_24 (by rw [c_24_15]; decide) (by rw [c_24_15]; decide) (by rw [c_24_15]; decide) (by decide) ?_
              refine lv_iconst (v := 0) hx hb dX8_about_135 (by decide) ?_
              exact endI X hr hlocks hP hD hS dX8_about_136 rfl
            · skip
              by_cases c_24_16 : a = 4
              · refine lv_tableIn (tgt := 135) (off := 111) hx hb dX8_about_24 (by rw [c_24_16]; decide) (by rw [c_24_16]; decide) (by rw [c_24_16]; decide) (by decide) ?_
                refine lv_iconst (v := 0) hx hb dX8_about_135 (by decide) ?_
                exact endI X hr hlocks hP hD hS dX8_about_136 rfl
              · skip
                by_cases c_24_17 : a = 5
                · refine lv_tableIn (tgt := 135) (off := 111) hx hb dX8_about_24 (by rw [c_24_17]; decide) (by rw [c_24_17]; decide) (by rw [c_24_17]; decide) (by decide) ?_
                  refine lv_iconst (v := 0) hx hb dX8_about_135 (by decide) ?_
                  exact endI X hr hlocks hP hD hS dX8_about_136 rfl
                · skip
                  by_cases c_24_18 : a = 6
                  · refine lv_tableIn (tgt := 135) (off := 111) hx hb dX8_about_24 (by rw [c_24_18]; decide) (by rw [c_24_18]; decide) (by rw [c_24_18]; decide) (by decide) ?_
                    refine lv_iconst (v := 0) hx hb dX8_about_135 (by decide) ?_
                    exact endI X hr hlocks hP hD hS dX8_about_136 rfl
                  · skip
                    by_cases c_24_19 : a = 7
                    · refine lv_tableIn (tgt := 135) (off := 111) hx hb dX8_about_24 (by rw [c_24_19]; decide) (by rw [c_24_19]; decide) (by rw [c_24_19]; decide) (by decide) ?_
                      refine lv_iconst (v := 0) hx hb dX8_about_135 (by decide) ?_
                      exact endI X hr hlocks hP hD hS dX8_about_136 rfl
                    · skip
                      by_cases c_24_20 : a = 8
                      · refine lv_tableIn (tgt := 108) (off := 84) hx hb dX8_about_24 (by rw [c_24_20]; decide) (by rw [c_24_20]; decide) (by rw [c_24_20]; decide) (by decide) ?_
                        refine lv_aload_n hx hb dX8_about_108 rfl (lv_at hl 0 rfl) ?_
                        refine k_get (C := RX8) (T := TX8) (N := 9) (ci := 8) (v := .ref qm) X hE hP 0 rfl rfl iX8 7 (by decide) w_103 rfl dX8_about_109 ?_
                        refine k_getN (C := RX0) (T := TX0) (N := 18) (ci := 0) (v := .ref qms) X hE hP 6 rfl rfl iX0 3 (by decide) nw_24 rfl dX8_about_112 ?_
                        refine k_getN (C := RX2) (T := TX2) (N := 5) (ci := 2) (v := .int 0) X hE hP 7 rfl rfl iX2 4 (by decide) nw_23 rfl dX8_about_115 ?_
                        exact endI X hr hlocks hP hD hS dX8_about_118 rfl
                      · skip
                        by_cases c_24_21 : a = 9
                        · refine lv_tableIn (tgt := 119) (off := 95) hx hb dX8_about_24 (by rw [c_24_21]; decide) (by rw [c_24_21]; decide) (by rw [c_24_21]; decide) (by decide) ?_
                          refine lv_aload_n hx hb dX8_about_119 rfl (lv_at hl 0 rfl) ?_
                          refine k_get (C := RX8) (T := TX8) (N := 9) (ci := 8) (v := .ref qt) X hE hP 0 rfl rfl iX8 5 (by decide) w_90 rfl dX8_about_120 ?_
                          refine k_getN (C := RX6) (T := TX6) (N := 2) (ci := 6) (v := .int 0) X hE hP 4 rfl rfl iX6 1 (by decide) nw_9 rfl dX8_about_123 ?_
                          exact endI X hr hlocks hP hD hS dX8_about_126 rfl
                        · skip
                          by_cases c_24_22 : a = 10
                          · refine lv_tableIn (tgt := 127) (off := 103) hx hb dX8_about_24 (by rw [c_24_22]; decide) (by rw [c_24_22]; decide) (by rw [c_24_22]; decide) (by decide) ?_
                            refine lv_aload_n hx hb dX8_about_127 rfl (lv_at hl 0 rfl) ?_
                            refine k_get (C := RX8) (T := TX8) (N := 9) (ci := 8) (v := .ref qa) X hE hP 0 rfl rfl iX8 6 (by decide) w_96 rfl dX8_about_128 ?_
                            refine k_getN (C := RX7) (T := TX7) (N := 9) (ci := 7) (v := .int 0) X hE hP 5 rfl rfl iX7 1 (by decide) nw_12 rfl dX8_about_131 ?_
                            exact endI X hr hlocks hP hD hS dX8_about_134 rfl
                          · skip
                            refine lv_tableOut (tgt := 135) hx hb dX8_about_24 (by have n_0 := lv_neT (k := 0) (a := 0) c_24_12 (by decide); have n_1 := lv_neT (k := 1) (a := 1) c_24_13 (by decide); have n_2 := lv_neT (k := 2) (a := 2) c_24_14 (by decide); have n_3 := lv_neT (k := 3) (a := 3) c_24_15 (by decide); have n_4 := lv_neT (k := 4) (a := 4) c_24_16 (by decide); have n_5 := lv_neT (k := 5) (a := 5) c_24_17 (by decide); have n_6 := lv_neT (k := 6) (a := 6) c_24_18 (by decide); have n_7 := lv_neT (k := 7) (a := 7) c_24_19 (by decide); have n_8 := lv_neT (k := 8) (a := 8) c_24_20 (by decide); have n_9 := lv_neT (k := 9) (a := 9) c_24_21 (by decide); have n_10 := lv_neT (k := 10) (a := 10) c_24_22 (by decide); omega) (by decide) ?_
                            refine lv_iconst (v := 0) hx hb dX8_about_135 (by decide) ?_
                            exact endI X hr hlocks hP hD hS dX8_about_136 rfl
    · skip
      obtain ⟨j, hj1, hj2, ej⟩ := idx_37 c_2 c_8
      refine lv_aload_n hx hb dX8_about_11 rfl (lv_at hl 0 rfl) ?_
      refine k_get (C := RX8) (T := TX8) (N := 9) (ci := 8) (v := .ref qn) X hE hP 0 rfl rfl iX8 0 (by decide) w_65 rfl dX8_about_12 ?_
      refine lv_bipush (v := 28) hx hb dX8_about_15 (by decide) ?_
      refine lv_iload_n hx hb dX8_about_17 rfl (lv_at hl 1 rfl) ?_
      refine lv_iadd hx hb dX8_about_18 ?_
      refine lv_iconst (v := 3) hx hb dX8_about_19 (by decide) ?_
      refine lv_isub hx hb dX8_about_20 ?_
      refine tk (y := nI (25 + j)) (idx_25 ej) ?_
      refine k_ald (v := 0) X hE hP 1 rfl (25 + j) rfl (by omega) (by decide) ((hfr (25 + j) (by omega)).trans (fr_hi (by omega))) dX8_about_21 ?_
      exact endI X hr hlocks hP hD hS dX8_about_22 rfl
set_option maxHeartbeats 4000000 in
set_option maxRecDepth 100000 in
theorem c_codes (l : Launch) (D : va_G) (cA cB : ClassId) (h0 : Nat) (qn : Nat) (qs : Nat) (qd : Nat) (qp : Nat) (qr : Nat) (qt : Nat) (qa : Nat) (qm : Nat) (qe : Nat) (qrc : Nat) (gc : Nat → Int32) (a : Int32) (hgc : ∀ j, j < 257 → gc j = 0) : CI l yX8_codes cX8_codes 2 (some .int) 0 0 0 0 D cA cB [.ref h0, .int a] [(h0, .inr (8, [.ref qn, .ref qs, .ref qd, .ref qp, .ref qr, .ref qt, .ref qa, .ref qm, .ref qe])), (qr, .inr (4, [.ref qn, .ref qs, .ref qd, .ref qp, .ref qrc, .int 0, .int 0])), (qrc, .inl (cA, 257, .inl gc))] (fun r W1 => r = 0) := by
  refine mkI (lv0 := [(0, .ref h0), (1, .int a)]) (by decide) (Nat.le_of_ble_eq_true rfl) rfl ?_
  intro p e s m below meth c A ls X hr hlocks hnm hE hA hP hD hS hl
  have hx := X.1
  have hb := X.2.1
  refine lv_iload_n hx hb dX8_codes_0 rfl (lv_at hl 1 rfl) ?_
  refine lv_if_lt (tgt := 23) hx hb dX8_codes_1 (by decide) (fun c_1 => ?_) (fun c_1 => ?_)
  · skip
    refine lv_iconst (v := 0) hx hb dX8_codes_23 (by decide) ?_
    exact endI X hr hlocks hP hD hS dX8_codes_24 rfl
  · skip
    refine lv_iload_n hx hb dX8_codes_4 rfl (lv_at hl 1 rfl) ?_
    refine lv_sipush (v := 256) hx hb dX8_codes_5 (by decide) ?_
    refine lv_icmp_gt (tgt := 23) hx hb dX8_codes_8 (by decide) (fun c_8 => ?_) (fun c_8 => ?_)
    · skip
      refine lv_iconst (v := 0) hx hb dX8_codes_23 (by decide) ?_
      exact endI X hr hlocks hP hD hS dX8_codes_24 rfl
    · skip
      obtain ⟨j, hj, ej⟩ := idx_le (n := 256) (by decide) c_1 c_8
      refine lv_aload_n hx hb dX8_codes_11 rfl (lv_at hl 0 rfl) ?_
      refine k_get (C := RX8) (T := TX8) (N := 9) (ci := 8) (v := .ref qr) X hE hP 0 rfl rfl iX8 4 (by decide) w_84 rfl dX8_codes_12 ?_
      refine k_getN (C := RX4) (T := TX4) (N := 7) (ci := 4) (v := .ref qrc) X hE hP 1 rfl rfl iX4 4 (by decide) nw_5 rfl dX8_codes_15 ?_
      refine lv_iload_n hx hb dX8_codes_18 rfl (lv_at hl 1 rfl) ?_
      refine k_ald (v := 0) X hE hP 2 rfl j ej (by omega) (by decide) (hgc j (by omega)) dX8_codes_19 ?_
      refine lv_goto (tgt := 24) hx hb dX8_codes_20 (by decide) ?_
      exact endI X hr hlocks hP hD hS dX8_codes_24 rfl
set_option maxHeartbeats 4000000 in
set_option maxRecDepth 100000 in
theorem c_ring (l : Launch) (D : va_G) (cA cB : ClassId) (h0 : Nat) (qn : Nat) (qs : Nat) (qd : Nat) (qp : Nat) (qr : Nat) (qt : Nat) (qa : Nat) (qm : Nat) (qe : Nat) (f : Nat → Int32) (qd1 : Nat) (qd2 : Nat) (qd3 : Nat) (qd4 : Nat) (a : Int32) (v : Int32) (hfr : frn f) : CI l yX8_ring cX8_ring 3 (some .int) 0 0 0 0 D cA cB [.ref h0, .int a, .int v] [(h0, .inr (8, [.ref qn, .ref qs, .ref qd, .ref qp, .ref qr, .ref qt, .ref qa, .ref qm, .ref qe])), (qn, .inl (cA, 34, .inl f)), (qd, .inr (1, [.ref qn, .ref qd1, .ref qd2, .ref qd3, .ref qd4])), (qd3, .inl (cA, 900, .inl (fun _ => 0)))] (fun r W1 => r = (-1)) := by
  refine mkI (lv0 := [(0, .ref h0), (1, .int a), (2, .int v)]) (by decide) (Nat.le_of_ble_eq_true rfl) rfl ?_
  intro p e s m below meth c A ls X hr hlocks hnm hE hA hP hD hS hl
  have hx := X.1
  have hb := X.2.1
  refine lv_iload_n hx hb dX8_ring_0 rfl (lv_at hl 1 rfl) ?_
  refine lv_if_lt (tgt := 24) hx hb dX8_ring_1 (by decide) (fun c_1 => ?_) (fun c_1 => ?_)
  · skip
    refine lv_iconst (v := (-1)) hx hb dX8_ring_24 (by decide) ?_
    exact endI X hr hlocks hP hD hS dX8_ring_25 rfl
  · skip
    refine lv_iload_n hx hb dX8_ring_4 rfl (lv_at hl 1 rfl) ?_
    refine lv_aload_n hx hb dX8_ring_5 rfl (lv_at hl 0 rfl) ?_
    refine k_get (C := RX8) (T := TX8) (N := 9) (ci := 8) (v := .ref qn) X hE hP 0 rfl rfl iX8 0 (by decide) w_65 rfl dX8_ring_6 ?_
    refine lv_bipush (v := 31) hx hb dX8_ring_9 (by decide) ?_
    refine k_ald (v := 0) X hE hP 1 rfl 31 rfl (by decide) (by decide) (hfr 31 (by decide)) dX8_ring_11 ?_
    refine lv_icmp_ge (tgt := 24) hx hb dX8_ring_12 (by decide) (fun c_12 => ?_) (fun c_12 => absurd (Int32.not_lt.mp c_1) c_12)
    refine lv_iconst (v := (-1)) hx hb dX8_ring_24 (by decide) ?_
    exact endI X hr hlocks hP hD hS dX8_ring_25 rfl
set_option maxHeartbeats 4000000 in
set_option maxRecDepth 100000 in
theorem c_strip (l : Launch) (D : va_G) (cA cB : ClassId) (h0 : Nat) (qn : Nat) (qs : Nat) (qd : Nat) (qp : Nat) (qr : Nat) (qt : Nat) (qa : Nat) (qm : Nat) (qe : Nat) (f : Nat → Int32) (qd1 : Nat) (qd2 : Nat) (qd3 : Nat) (qd4 : Nat) (a : Int32) (hfr : frn f) : CI l yX8_strip cX8_strip 2 (some .int) 0 0 0 0 D cA cB [.ref h0, .int a] [(h0, .inr (8, [.ref qn, .ref qs, .ref qd, .ref qp, .ref qr, .ref qt, .ref qa, .ref qm, .ref qe])), (qn, .inl (cA, 34, .inl f)), (qd, .inr (1, [.ref qn, .ref qd1, .ref qd2, .ref qd3, .ref qd4])), (qd4, .inl (cA, 200, .inl (fun _ => 0)))] (fun r W1 => r = (-1)) := by
  refine mkI (lv0 := [(0, .ref h0), (1, .int a)]) (by decide) (Nat.le_of_ble_eq_true rfl) rfl ?_
  intro p e s m below meth c A ls X hr hlocks hnm hE hA hP hD hS hl
  have hx := X.1
  have hb := X.2.1
  refine lv_iload_n hx hb dX8_strip_0 rfl (lv_at hl 1 rfl) ?_
  refine lv_if_lt (tgt := 27) hx hb dX8_strip_1 (by decide) (fun c_1 => ?_) (fun c_1 => ?_)
  · skip
    refine lv_iconst (v := (-1)) hx hb dX8_strip_27 (by decide) ?_
    exact endI X hr hlocks hP hD hS dX8_strip_28 rfl
  · skip
    refine lv_iload_n hx hb dX8_strip_4 rfl (lv_at hl 1 rfl) ?_
    refine lv_aload_n hx hb dX8_strip_5 rfl (lv_at hl 0 rfl) ?_
    refine k_get (C := RX8) (T := TX8) (N := 9) (ci := 8) (v := .ref qn) X hE hP 0 rfl rfl iX8 0 (by decide) w_65 rfl dX8_strip_6 ?_
    refine lv_bipush (v := 32) hx hb dX8_strip_9 (by decide) ?_
    refine k_ald (v := 0) X hE hP 1 rfl 32 rfl (by decide) (by decide) (hfr 32 (by decide)) dX8_strip_11 ?_
    refine lv_icmp_ge (tgt := 27) hx hb dX8_strip_12 (by decide) (fun c_12 => ?_) (fun c_12 => absurd (Int32.not_lt.mp c_1) c_12)
    refine lv_iconst (v := (-1)) hx hb dX8_strip_27 (by decide) ?_
    exact endI X hr hlocks hP hD hS dX8_strip_28 rfl
set_option maxHeartbeats 4000000 in
set_option maxRecDepth 100000 in
theorem c_outc (l : Launch) (D : va_G) (cA cB : ClassId) (h0 : Nat) (qn : Nat) (qs : Nat) (qd : Nat) (qp : Nat) (qr : Nat) (qt : Nat) (qa : Nat) (qm : Nat) (qe : Nat) (qel : Nat) (a : Int32)  : CI l yX8_out cX8_out 2 (some .int) 0 0 0 0 D cA cB [.ref h0, .int a] [(h0, .inr (8, [.ref qn, .ref qs, .ref qd, .ref qp, .ref qr, .ref qt, .ref qa, .ref qm, .ref qe])), (qe, .inr (5, [.ref qel, .int 0])), (qel, .inl (cA, 16, .inl (fun _ => 0)))] (fun r W1 => r = (-1)) := by
  refine mkI (lv0 := [(0, .ref h0), (1, .int a)]) (by decide) (Nat.le_of_ble_eq_true rfl) rfl ?_
  intro p e s m below meth c A ls X hr hlocks hnm hE hA hP hD hS hl
  have hx := X.1
  have hb := X.2.1
  refine lv_iload_n hx hb dX8_out_0 rfl (lv_at hl 1 rfl) ?_
  refine lv_if_lt (tgt := 27) hx hb dX8_out_1 (by decide) (fun c_1 => ?_) (fun c_1 => ?_)
  · skip
    refine lv_iconst (v := (-1)) hx hb dX8_out_27 (by decide) ?_
    exact endI X hr hlocks hP hD hS dX8_out_28 rfl
  · skip
    refine lv_iload_n hx hb dX8_out_4 rfl (lv_at hl 1 rfl) ?_
    refine lv_aload_n hx hb dX8_out_5 rfl (lv_at hl 0 rfl) ?_
    refine k_get (C := RX8) (T := TX8) (N := 9) (ci := 8) (v := .ref qe) X hE hP 0 rfl rfl iX8 8 (by decide) w_109 rfl dX8_out_6 ?_
    refine k_getN (C := RX5) (T := TX5) (N := 2) (ci := 5) (v := .int 0) X hE hP 1 rfl rfl iX5 1 (by decide) nw_30 rfl dX8_out_9 ?_
    refine lv_icmp_ge (tgt := 27) hx hb dX8_out_12 (by decide) (fun c_12 => ?_) (fun c_12 => absurd (Int32.not_lt.mp c_1) c_12)
    refine lv_iconst (v := (-1)) hx hb dX8_out_27 (by decide) ?_
    exact endI X hr hlocks hP hD hS dX8_out_28 rfl
set_option maxHeartbeats 4000000 in
set_option maxRecDepth 100000 in
theorem c_back (l : Launch) (D : va_G) (cA cB : ClassId) (h0 : Nat) (qn : Nat) (qs : Nat) (qd : Nat) (qp : Nat) (qr : Nat) (qt : Nat) (qa : Nat) (qm : Nat) (qe : Nat) (qpe : Nat) (a : Int32)  : CI l yX8_back cX8_back 3 (some .int) 0 0 0 0 D cA cB [.ref h0, .int a] [(h0, .inr (8, [.ref qn, .ref qs, .ref qd, .ref qp, .ref qr, .ref qt, .ref qa, .ref qm, .ref qe])), (qp, .inr (3, [.ref qpe, .int 0, .int 0]))] (fun r W1 => r = (-1)) := by
  refine mkI (lv0 := [(0, .ref h0), (1, .int a)]) (by decide) (Nat.le_of_ble_eq_true rfl) rfl ?_
  intro p e s m below meth c A ls X hr hlocks hnm hE hA hP hD hS hl
  have hx := X.1
  have hb := X.2.1
  refine lv_iload_n hx hb dX8_back_0 rfl (lv_at hl 1 rfl) ?_
  refine lv_iconst (v := 1) hx hb dX8_back_1 (by decide) ?_
  refine lv_icmp_lt (tgt := 16) hx hb dX8_back_2 (by decide) (fun c_2 => ?_) (fun c_2 => ?_)
  · skip
    refine lv_iconst (v := (-1)) hx hb dX8_back_16 (by decide) ?_
    exact endI X hr hlocks hP hD hS dX8_back_17 rfl
  · skip
    refine lv_iload_n hx hb dX8_back_5 rfl (lv_at hl 1 rfl) ?_
    refine lv_aload_n hx hb dX8_back_6 rfl (lv_at hl 0 rfl) ?_
    refine k_get (C := RX8) (T := TX8) (N := 9) (ci := 8) (v := .ref qp) X hE hP 0 rfl rfl iX8 3 (by decide) w_78 rfl dX8_back_7 ?_
    refine k_getN (C := RX3) (T := TX3) (N := 3) (ci := 3) (v := .int 0) X hE hP 1 rfl rfl iX3 2 (by decide) nw_4 rfl dX8_back_10 ?_
    refine lv_icmp_le (tgt := 18) hx hb dX8_back_13 (by decide) (fun c_13 => absurd c_13 (not_le0 c_2)) (fun c_13 => ?_)
    refine lv_iconst (v := (-1)) hx hb dX8_back_16 (by decide) ?_
    exact endI X hr hlocks hP hD hS dX8_back_17 rfl
set_option maxHeartbeats 4000000 in
set_option maxRecDepth 100000 in
theorem c_hasRoom0 (l : Launch) (D : va_G) (cA cB : ClassId) (h0 : Nat) (htb : Nat) (t0 : Int32) (t1 : Int32) (t2 : Int32) (t3 : Int32) (t4 : Int32) (t5 : Int32) (t6 : Int32)  : CI l yX7_hasRoom cX7_hasRoom 2 (some .boolean) 0 0 0 0 D cA cB [.ref h0, .int 20] [(h0, .inr (7, [.ref htb, .int 0, .int t0, .int t1, .int t2, .int t3, .int t4, .int t5, .int t6]))] (fun r W1 => r = 1 ∧ W1 = [(h0, .inr (7, [.ref htb, .int 0, .int t0, .int t1, .int t2, .int t3, .int t4, .int t5, .int t6]))]) := by
  refine mkI (lv0 := [(0, .ref h0), (1, .int 20)]) (by decide) (Nat.le_of_ble_eq_true rfl) rfl ?_
  intro p e s m below meth c A ls X hr hlocks hnm hE hA hP hD hS hl
  have hx := X.1
  have hb := X.2.1
  refine lv_aload_n hx hb dX7_hasRoom_0 rfl (lv_at hl 0 rfl) ?_
  refine k_get (C := RX7) (T := TX7) (N := 9) (ci := 7) (v := .int 0) X hE hP 0 rfl rfl iX7 1 (by decide) w_144 rfl dX7_hasRoom_1 ?_
  refine lv_iload_n hx hb dX7_hasRoom_4 rfl (lv_at hl 1 rfl) ?_
  refine lv_iadd hx hb dX7_hasRoom_5 ?_
  refine tk (y := 20) (by decide) ?_
  refine lv_sipush (v := 6000) hx hb dX7_hasRoom_6 (by decide) ?_
  refine lv_icmp_gt (tgt := 16) hx hb dX7_hasRoom_9 (by decide) (fun c_9 => absurd c_9 (by decide)) (fun c_9 => ?_)
  refine lv_iconst (v := 1) hx hb dX7_hasRoom_12 (by decide) ?_
  refine lv_goto (tgt := 17) hx hb dX7_hasRoom_13 (by decide) ?_
  exact endZ X hr rfl hlocks hP hD hS dX7_hasRoom_17 ⟨rfl, rfl⟩
set_option maxHeartbeats 4000000 in
set_option maxRecDepth 100000 in
theorem c_add0 (l : Launch) (D : va_G) (cA cB : ClassId) (h0 : Nat) (htb : Nat) (t0 : Int32) (t1 : Int32) (t2 : Int32) (t3 : Int32) (t4 : Int32) (t5 : Int32) (t6 : Int32) (f : Nat → Int32) (v : Int32)  : CV l yX7_add cX7_add 3 none 0 0 0 0 D cA cB [.ref h0, .int v] [(h0, .inr (7, [.ref htb, .int 0, .int t0, .int t1, .int t2, .int t3, .int t4, .int t5, .int t6])), (htb, .inl (cA, 6000, .inl f))] (fun W1 => ∃ (g : Nat → Int32), W1 = [(h0, .inr (7, [.ref htb, .int 4, .int t0, .int t1, .int t2, .int t3, .int t4, .int t5, .int t6])), (htb, .inl (cA, 6000, .inl g))]) := by
  refine mkV (lv0 := [(0, .ref h0), (1, .int v)]) (by decide) (Nat.le_of_ble_eq_true rfl) rfl ?_
  intro p e s m below meth c A ls X hr hlocks hnm hE hA hP hD hS hl
  have hx := X.1
  have hb := X.2.1
  refine lv_bipush (v := 24) hx hb dX7_add_0 (by decide) ?_
  refine lv_istore_n (lv' := [(2, .int 24), (0, .ref h0), (1, .int v)]) hx hb dX7_add_2 rfl hl (by decide) rfl (fun ls hl => ?_)
  refine lv_iload_n hx hb dX7_add_3 rfl (lv_at hl 0 rfl) ?_
  refine lv_if_lt (tgt := 49) hx hb dX7_add_4 (by decide) (fun c_4 => absurd c_4 (by decide)) (fun c_4 => ?_)
  refine lv_aload_n hx hb dX7_add_7 rfl (lv_at hl 1 rfl) ?_
  refine k_get (C := RX7) (T := TX7) (N := 9) (ci := 7) (v := .int 0) X hE hP 0 rfl rfl iX7 1 (by decide) w_144 rfl dX7_add_8 ?_
  refine lv_sipush (v := 6000) hx hb dX7_add_11 (by decide) ?_
  refine lv_icmp_ge (tgt := 49) hx hb dX7_add_14 (by decide) (fun c_14 => absurd c_14 (by decide)) (fun c_14 => ?_)
  refine lv_aload_n hx hb dX7_add_17 rfl (lv_at hl 1 rfl) ?_
  refine k_get (C := RX7) (T := TX7) (N := 9) (ci := 7) (v := .ref htb) X hE hP 0 rfl rfl iX7 0 (by decide) w_11 rfl dX7_add_18 ?_
  refine lv_aload_n hx hb dX7_add_21 rfl (lv_at hl 1 rfl) ?_
  refine k_get (C := RX7) (T := TX7) (N := 9) (ci := 7) (v := .int 0) X hE hP 0 rfl rfl iX7 1 (by decide) w_144 rfl dX7_add_22 ?_
  refine lv_iload_n hx hb dX7_add_25 rfl (lv_at hl 2 rfl) ?_
  refine lv_iload_n hx hb dX7_add_26 rfl (lv_at hl 0 rfl) ?_
  refine lv_ishr hx hb dX7_add_27 ?_
  refine lv_sipush (v := 255) hx hb dX7_add_28 (by decide) ?_
  refine lv_iand hx hb dX7_add_31 ?_
  refine k_ast X hE hP hD hS 1 rfl 0 rfl (by decide) (by decide) [(h0, .inr (7, [.ref htb, .int 0, .int t0, .int t1, .int t2, .int t3, .int t4, .int t5, .int t6])), (htb, .inl (cA, 6000, .inl (upd f 0 ((v >>> (24 &&& 31)) &&& 255))))] rfl dX7_add_32 (fun H locs hP hD hS => ?_)
  refine lv_aload_n hx hb dX7_add_33 rfl (lv_at hl 1 rfl) ?_
  refine lv_dup hx hb dX7_add_34 rfl ?_
  refine k_get (C := RX7) (T := TX7) (N := 9) (ci := 7) (v := .int 0) X hE hP 0 rfl rfl iX7 1 (by decide) w_144 rfl dX7_add_35 ?_
  refine lv_iconst (v := 1) hx hb dX7_add_38 (by decide) ?_
  refine lv_iadd hx hb dX7_add_39 ?_
  refine tk (y := 1) (by decide) ?_
  refine k_put (C := RX7) (T := TX7) (N := 9) (ci := 7) (v := .int 1) (ty := .int) X hE hP hD hS 0 rfl rfl iX7 tyX7 tyX7_ok nmX7 1 (by decide) w_144 rfl (by decide +kernel) rfl rfl (Nat.le_of_ble_eq_true rfl) [(h0, .inr (7, [.ref htb, .int 1, .int t0, .int t1, .int t2, .int t3, .int t4, .int t5, .int t6])), (htb, .inl (cA, 6000, .inl (upd f 0 ((v >>> (24 &&& 31)) &&& 255))))] rfl dX7_add_40 (fun H locs hP hD hS => ?_)
  refine lv_iinc (v := 16) (lv' := [(2, .int 16), (0, .ref h0), (1, .int v)]) hx hb dX7_add_43 hl (k := 0) rfl (by decide) (by decide) rfl (fun ls hl => ?_)
  refine lv_goto (tgt := 3) hx hb dX7_add_46 (by decide) ?_
  refine lv_iload_n hx hb dX7_add_3 rfl (lv_at hl 0 rfl) ?_
  refine lv_if_lt (tgt := 49) hx hb dX7_add_4 (by decide) (fun c_4_1 => absurd c_4_1 (by decide)) (fun c_4_1 => ?_)
  refine lv_aload_n hx hb dX7_add_7 rfl (lv_at hl 1 rfl) ?_
  refine k_get (C := RX7) (T := TX7) (N := 9) (ci := 7) (v := .int 1) X hE hP 0 rfl rfl iX7 1 (by decide) w_144 rfl dX7_add_8 ?_
  refine lv_sipush (v := 6000) hx hb dX7_add_11 (by decide) ?_
  refine lv_icmp_ge (tgt := 49) hx hb dX7_add_14 (by decide) (fun c_14_2 => absurd c_14_2 (by decide)) (fun c_14_2 => ?_)
  refine lv_aload_n hx hb dX7_add_17 rfl (lv_at hl 1 rfl) ?_
  refine k_get (C := RX7) (T := TX7) (N := 9) (ci := 7) (v := .ref htb) X hE hP 0 rfl rfl iX7 0 (by decide) w_11 rfl dX7_add_18 ?_
  refine lv_aload_n hx hb dX7_add_21 rfl (lv_at hl 1 rfl) ?_
  refine k_get (C := RX7) (T := TX7) (N := 9) (ci := 7) (v := .int 1) X hE hP 0 rfl rfl iX7 1 (by decide) w_144 rfl dX7_add_22 ?_
  refine lv_iload_n hx hb dX7_add_25 rfl (lv_at hl 2 rfl) ?_
  refine lv_iload_n hx hb dX7_add_26 rfl (lv_at hl 0 rfl) ?_
  refine lv_ishr hx hb dX7_add_27 ?_
  refine lv_sipush (v := 255) hx hb dX7_add_28 (by decide) ?_
  refine lv_iand hx hb dX7_add_31 ?_
  refine k_ast X hE hP hD hS 1 rfl 1 rfl (by decide) (by decide) [(h0, .inr (7, [.ref htb, .int 1, .int t0, .int t1, .int t2, .int t3, .int t4, .int t5, .int t6])), (htb, .inl (cA, 6000, .inl (upd (upd f 0 ((v >>> (24 &&& 31)) &&& 255)) 1 ((v >>> (16 &&& 31)) &&& 255))))] rfl dX7_add_32 (fun H locs hP hD hS => ?_)
  refine lv_aload_n hx hb dX7_add_33 rfl (lv_at hl 1 rfl) ?_
  refine lv_dup hx hb dX7_add_34 rfl ?_
  refine k_get (C := RX7) (T := TX7) (N := 9) (ci := 7) (v := .int 1) X hE hP 0 rfl rfl iX7 1 (by decide) w_144 rfl dX7_add_35 ?_
  refine lv_iconst (v := 1) hx hb dX7_add_38 (by decide) ?_
  refine lv_iadd hx hb dX7_add_39 ?_
  refine tk (y := 2) (by decide) ?_
  refine k_put (C := RX7) (T := TX7) (N := 9) (ci := 7) (v := .int 2) (ty := .int) X hE hP hD hS 0 rfl rfl iX7 tyX7 tyX7_ok nmX7 1 (by decide) w_144 rfl (by decide +kernel) rfl rfl (Nat.le_of_ble_eq_true rfl) [(h0, .inr (7, [.ref htb, .int 2, .int t0, .int t1, .int t2, .int t3, .int t4, .int t5, .int t6])), (htb, .inl (cA, 6000, .inl (upd (upd f 0 ((v >>> (24 &&& 31)) &&& 255)) 1 ((v >>> (16 &&& 31)) &&& 255))))] rfl dX7_add_40 (fun H locs hP hD hS => ?_)
  refine lv_iinc (v := 8) (lv' := [(2, .int 8), (0, .ref h0), (1, .int v)]) hx hb dX7_add_43 hl (k := 0) rfl (by decide) (by decide) rfl (fun ls hl => ?_)
  refine lv_goto (tgt := 3) hx hb dX7_add_46 (by decide) ?_
  refine lv_iload_n hx hb dX7_add_3 rfl (lv_at hl 0 rfl) ?_
  refine lv_if_lt (tgt := 49) hx hb dX7_add_4 (by decide) (fun c_4_3 => absurd c_4_3 (by decide)) (fun c_4_3 => ?_)
  refine lv_aload_n hx hb dX7_add_7 rfl (lv_at hl 1 rfl) ?_
  refine k_get (C := RX7) (T := TX7) (N := 9) (ci := 7) (v := .int 2) X hE hP 0 rfl rfl iX7 1 (by decide) w_144 rfl dX7_add_8 ?_
  refine lv_sipush (v := 6000) hx hb dX7_add_11 (by decide) ?_
  refine lv_icmp_ge (tgt := 49) hx hb dX7_add_14 (by decide) (fun c_14_4 => absurd c_14_4 (by decide)) (fun c_14_4 => ?_)
  refine lv_aload_n hx hb dX7_add_17 rfl (lv_at hl 1 rfl) ?_
  refine k_get (C := RX7) (T := TX7) (N := 9) (ci := 7) (v := .ref htb) X hE hP 0 rfl rfl iX7 0 (by decide) w_11 rfl dX7_add_18 ?_
  refine lv_aload_n hx hb dX7_add_21 rfl (lv_at hl 1 rfl) ?_
  refine k_get (C := RX7) (T := TX7) (N := 9) (ci := 7) (v := .int 2) X hE hP 0 rfl rfl iX7 1 (by decide) w_144 rfl dX7_add_22 ?_
  refine lv_iload_n hx hb dX7_add_25 rfl (lv_at hl 2 rfl) ?_
  refine lv_iload_n hx hb dX7_add_26 rfl (lv_at hl 0 rfl) ?_
  refine lv_ishr hx hb dX7_add_27 ?_
  refine lv_sipush (v := 255) hx hb dX7_add_28 (by decide) ?_
  refine lv_iand hx hb dX7_add_31 ?_
  refine k_ast X hE hP hD hS 1 rfl 2 rfl (by decide) (by decide) [(h0, .inr (7, [.ref htb, .int 2, .int t0, .int t1, .int t2, .int t3, .int t4, .int t5, .int t6])), (htb, .inl (cA, 6000, .inl (upd (upd (upd f 0 ((v >>> (24 &&& 31)) &&& 255)) 1 ((v >>> (16 &&& 31)) &&& 255)) 2 ((v >>> (8 &&& 31)) &&& 255))))] rfl dX7_add_32 (fun H locs hP hD hS => ?_)
  refine lv_aload_n hx hb dX7_add_33 rfl (lv_at hl 1 rfl) ?_
  refine lv_dup hx hb dX7_add_34 rfl ?_
  refine k_get (C := RX7) (T := TX7) (N := 9) (ci := 7) (v := .int 2) X hE hP 0 rfl rfl iX7 1 (by decide) w_144 rfl dX7_add_35 ?_
  refine lv_iconst (v := 1) hx hb dX7_add_38 (by decide) ?_
  refine lv_iadd hx hb dX7_add_39 ?_
  refine tk (y := 3) (by decide) ?_
  refine k_put (C := RX7) (T := TX7) (N := 9) (ci := 7) (v := .int 3) (ty := .int) X hE hP hD hS 0 rfl rfl iX7 tyX7 tyX7_ok nmX7 1 (by decide) w_144 rfl (by decide +kernel) rfl rfl (Nat.le_of_ble_eq_true rfl) [(h0, .inr (7, [.ref htb, .int 3, .int t0, .int t1, .int t2, .int t3, .int t4, .int t5, .int t6])), (htb, .inl (cA, 6000, .inl (upd (upd (upd f 0 ((v >>> (24 &&& 31)) &&& 255)) 1 ((v >>> (16 &&& 31)) &&& 255)) 2 ((v >>> (8 &&& 31)) &&& 255))))] rfl dX7_add_40 (fun H locs hP hD hS => ?_)
  refine lv_iinc (v := 0) (lv' := [(2, .int 0), (0, .ref h0), (1, .int v)]) hx hb dX7_add_43 hl (k := 0) rfl (by decide) (by decide) rfl (fun ls hl => ?_)
  refine lv_goto (tgt := 3) hx hb dX7_add_46 (by decide) ?_
  refine lv_iload_n hx hb dX7_add_3 rfl (lv_at hl 0 rfl) ?_
  refine lv_if_lt (tgt := 49) hx hb dX7_add_4 (by decide) (fun c_4_5 => absurd c_4_5 (by decide)) (fun c_4_5 => ?_)
  refine lv_aload_n hx hb dX7_add_7 rfl (lv_at hl 1 rfl) ?_
  refine k_get (C := RX7) (T := TX7) (N := 9) (ci := 7) (v := .int 3) X hE hP 0 rfl rfl iX7 1 (by decide) w_144 rfl dX7_add_8 ?_
  refine lv_sipush (v := 6000) hx hb dX7_add_11 (by decide) ?_
  refine lv_icmp_ge (tgt := 49) hx hb dX7_add_14 (by decide) (fun c_14_6 => absurd c_14_6 (by decide)) (fun c_14_6 => ?_)
  refine lv_aload_n hx hb dX7_add_17 rfl (lv_at hl 1 rfl) ?_
  refine k_get (C := RX7) (T := TX7) (N := 9) (ci := 7) (v := .ref htb) X hE hP 0 rfl rfl iX7 0 (by decide) w_11 rfl dX7_add_18 ?_
  refine lv_aload_n hx hb dX7_add_21 rfl (lv_at hl 1 rfl) ?_
  refine k_get (C := RX7) (T := TX7) (N := 9) (ci := 7) (v := .int 3) X hE hP 0 rfl rfl iX7 1 (by decide) w_144 rfl dX7_add_22 ?_
  refine lv_iload_n hx hb dX7_add_25 rfl (lv_at hl 2 rfl) ?_
  refine lv_iload_n hx hb dX7_add_26 rfl (lv_at hl 0 rfl) ?_
  refine lv_ishr hx hb dX7_add_27 ?_
  refine lv_sipush (v := 255) hx hb dX7_add_28 (by decide) ?_
  refine lv_iand hx hb dX7_add_31 ?_
  refine k_ast X hE hP hD hS 1 rfl 3 rfl (by decide) (by decide) [(h0, .inr (7, [.ref htb, .int 3, .int t0, .int t1, .int t2, .int t3, .int t4, .int t5, .int t6])), (htb, .inl (cA, 6000, .inl (upd (upd (upd (upd f 0 ((v >>> (24 &&& 31)) &&& 255)) 1 ((v >>> (16 &&& 31)) &&& 255)) 2 ((v >>> (8 &&& 31)) &&& 255)) 3 ((v >>> (0 &&& 31)) &&& 255))))] rfl dX7_add_32 (fun H locs hP hD hS => ?_)
  refine lv_aload_n hx hb dX7_add_33 rfl (lv_at hl 1 rfl) ?_
  refine lv_dup hx hb dX7_add_34 rfl ?_
  refine k_get (C := RX7) (T := TX7) (N := 9) (ci := 7) (v := .int 3) X hE hP 0 rfl rfl iX7 1 (by decide) w_144 rfl dX7_add_35 ?_
  refine lv_iconst (v := 1) hx hb dX7_add_38 (by decide) ?_
  refine lv_iadd hx hb dX7_add_39 ?_
  refine tk (y := 4) (by decide) ?_
  refine k_put (C := RX7) (T := TX7) (N := 9) (ci := 7) (v := .int 4) (ty := .int) X hE hP hD hS 0 rfl rfl iX7 tyX7 tyX7_ok nmX7 1 (by decide) w_144 rfl (by decide +kernel) rfl rfl (Nat.le_of_ble_eq_true rfl) [(h0, .inr (7, [.ref htb, .int 4, .int t0, .int t1, .int t2, .int t3, .int t4, .int t5, .int t6])), (htb, .inl (cA, 6000, .inl (upd (upd (upd (upd f 0 ((v >>> (24 &&& 31)) &&& 255)) 1 ((v >>> (16 &&& 31)) &&& 255)) 2 ((v >>> (8 &&& 31)) &&& 255)) 3 ((v >>> (0 &&& 31)) &&& 255))))] rfl dX7_add_40 (fun H locs hP hD hS => ?_)
  refine lv_iinc (v := (-8)) (lv' := [(2, .int (-8)), (0, .ref h0), (1, .int v)]) hx hb dX7_add_43 hl (k := 0) rfl (by decide) (by decide) rfl (fun ls hl => ?_)
  refine lv_goto (tgt := 3) hx hb dX7_add_46 (by decide) ?_
  refine lv_iload_n hx hb dX7_add_3 rfl (lv_at hl 0 rfl) ?_
  refine lv_if_lt (tgt := 49) hx hb dX7_add_4 (by decide) (fun c_4_7 => ?_) (fun c_4_7 => absurd (by decide) c_4_7)
  exact endV X hr hlocks hP hD hS dX7_add_49 ⟨(upd (upd (upd (upd f 0 ((v >>> (24 &&& 31)) &&& 255)) 1 ((v >>> (16 &&& 31)) &&& 255)) 2 ((v >>> (8 &&& 31)) &&& 255)) 3 ((v >>> (0 &&& 31)) &&& 255)), rfl⟩
set_option maxHeartbeats 4000000 in
set_option maxRecDepth 100000 in
theorem c_add4 (l : Launch) (D : va_G) (cA cB : ClassId) (h0 : Nat) (htb : Nat) (t0 : Int32) (t1 : Int32) (t2 : Int32) (t3 : Int32) (t4 : Int32) (t5 : Int32) (t6 : Int32) (f : Nat → Int32) (v : Int32)  : CV l yX7_add cX7_add 3 none 0 0 0 0 D cA cB [.ref h0, .int v] [(h0, .inr (7, [.ref htb, .int 4, .int t0, .int t1, .int t2, .int t3, .int t4, .int t5, .int t6])), (htb, .inl (cA, 6000, .inl f))] (fun W1 => ∃ (g : Nat → Int32), W1 = [(h0, .inr (7, [.ref htb, .int 8, .int t0, .int t1, .int t2, .int t3, .int t4, .int t5, .int t6])), (htb, .inl (cA, 6000, .inl g))]) := by
  refine mkV (lv0 := [(0, .ref h0), (1, .int v)]) (by decide) (Nat.le_of_ble_eq_true rfl) rfl ?_
  intro p e s m below meth c A ls X hr hlocks hnm hE hA hP hD hS hl
  have hx := X.1
  have hb := X.2.1
  refine lv_bipush (v := 24) hx hb dX7_add_0 (by decide) ?_
  refine lv_istore_n (lv' := [(2, .int 24), (0, .ref h0), (1, .int v)]) hx hb dX7_add_2 rfl hl (by decide) rfl (fun ls hl => ?_)
  refine lv_iload_n hx hb dX7_add_3 rfl (lv_at hl 0 rfl) ?_
  refine lv_if_lt (tgt := 49) hx hb dX7_add_4 (by decide) (fun c_4 => absurd c_4 (by decide)) (fun c_4 => ?_)
  refine lv_aload_n hx hb dX7_add_7 rfl (lv_at hl 1 rfl) ?_
  refine k_get (C := RX7) (T := TX7) (N := 9) (ci := 7) (v := .int 4) X hE hP 0 rfl rfl iX7 1 (by decide) w_144 rfl dX7_add_8 ?_
  refine lv_sipush (v := 6000) hx hb dX7_add_11 (by decide) ?_
  refine lv_icmp_ge (tgt := 49) hx hb dX7_add_14 (by decide) (fun c_14 => absurd c_14 (by decide)) (fun c_14 => ?_)
  refine lv_aload_n hx hb dX7_add_17 rfl (lv_at hl 1 rfl) ?_
  refine k_get (C := RX7) (T := TX7) (N := 9) (ci := 7) (v := .ref htb) X hE hP 0 rfl rfl iX7 0 (by decide) w_11 rfl dX7_add_18 ?_
  refine lv_aload_n hx hb dX7_add_21 rfl (lv_at hl 1 rfl) ?_
  refine k_get (C := RX7) (T := TX7) (N := 9) (ci := 7) (v := .int 4) X hE hP 0 rfl rfl iX7 1 (by decide) w_144 rfl dX7_add_22 ?_
  refine lv_iload_n hx hb dX7_add_25 rfl (lv_at hl 2 rfl) ?_
  refine lv_iload_n hx hb dX7_add_26 rfl (lv_at hl 0 rfl) ?_
  refine lv_ishr hx hb dX7_add_27 ?_
  refine lv_sipush (v := 255) hx hb dX7_add_28 (by decide) ?_
  refine lv_iand hx hb dX7_add_31 ?_
  refine k_ast X hE hP hD hS 1 rfl 4 rfl (by decide) (by decide) [(h0, .inr (7, [.ref htb, .int 4, .int t0, .int t1, .int t2, .int t3, .int t4, .int t5, .int t6])), (htb, .inl (cA, 6000, .inl (upd f 4 ((v >>> (24 &&& 31)) &&& 255))))] rfl dX7_add_32 (fun H locs hP hD hS => ?_)
  refine lv_aload_n hx hb dX7_add_33 rfl (lv_at hl 1 rfl) ?_
  refine lv_dup hx hb dX7_add_34 rfl ?_
  refine k_get (C := RX7) (T := TX7) (N := 9) (ci := 7) (v := .int 4) X hE hP 0 rfl rfl iX7 1 (by decide) w_144 rfl dX7_add_35 ?_
  refine lv_iconst (v := 1) hx hb dX7_add_38 (by decide) ?_
  refine lv_iadd hx hb dX7_add_39 ?_
  refine tk (y := 5) (by decide) ?_
  refine k_put (C := RX7) (T := TX7) (N := 9) (ci := 7) (v := .int 5) (ty := .int) X hE hP hD hS 0 rfl rfl iX7 tyX7 tyX7_ok nmX7 1 (by decide) w_144 rfl (by decide +kernel) rfl rfl (Nat.le_of_ble_eq_true rfl) [(h0, .inr (7, [.ref htb, .int 5, .int t0, .int t1, .int t2, .int t3, .int t4, .int t5, .int t6])), (htb, .inl (cA, 6000, .inl (upd f 4 ((v >>> (24 &&& 31)) &&& 255))))] rfl dX7_add_40 (fun H locs hP hD hS => ?_)
  refine lv_iinc (v := 16) (lv' := [(2, .int 16), (0, .ref h0), (1, .int v)]) hx hb dX7_add_43 hl (k := 0) rfl (by decide) (by decide) rfl (fun ls hl => ?_)
  refine lv_goto (tgt := 3) hx hb dX7_add_46 (by decide) ?_
  refine lv_iload_n hx hb dX7_add_3 rfl (lv_at hl 0 rfl) ?_
  refine lv_if_lt (tgt := 49) hx hb dX7_add_4 (by decide) (fun c_4_1 => absurd c_4_1 (by decide)) (fun c_4_1 => ?_)
  refine lv_aload_n hx hb dX7_add_7 rfl (lv_at hl 1 rfl) ?_
  refine k_get (C := RX7) (T := TX7) (N := 9) (ci := 7) (v := .int 5) X hE hP 0 rfl rfl iX7 1 (by decide) w_144 rfl dX7_add_8 ?_
  refine lv_sipush (v := 6000) hx hb dX7_add_11 (by decide) ?_
  refine lv_icmp_ge (tgt := 49) hx hb dX7_add_14 (by decide) (fun c_14_2 => absurd c_14_2 (by decide)) (fun c_14_2 => ?_)
  refine lv_aload_n hx hb dX7_add_17 rfl (lv_at hl 1 rfl) ?_
  refine k_get (C := RX7) (T := TX7) (N := 9) (ci := 7) (v := .ref htb) X hE hP 0 rfl rfl iX7 0 (by decide) w_11 rfl dX7_add_18 ?_
  refine lv_aload_n hx hb dX7_add_21 rfl (lv_at hl 1 rfl) ?_
  refine k_get (C := RX7) (T := TX7) (N := 9) (ci := 7) (v := .int 5) X hE hP 0 rfl rfl iX7 1 (by decide) w_144 rfl dX7_add_22 ?_
  refine lv_iload_n hx hb dX7_add_25 rfl (lv_at hl 2 rfl) ?_
  refine lv_iload_n hx hb dX7_add_26 rfl (lv_at hl 0 rfl) ?_
  refine lv_ishr hx hb dX7_add_27 ?_
  refine lv_sipush (v := 255) hx hb dX7_add_28 (by decide) ?_
  refine lv_iand hx hb dX7_add_31 ?_
  refine k_ast X hE hP hD hS 1 rfl 5 rfl (by decide) (by decide) [(h0, .inr (7, [.ref htb, .int 5, .int t0, .int t1, .int t2, .int t3, .int t4, .int t5, .int t6])), (htb, .inl (cA, 6000, .inl (upd (upd f 4 ((v >>> (24 &&& 31)) &&& 255)) 5 ((v >>> (16 &&& 31)) &&& 255))))] rfl dX7_add_32 (fun H locs hP hD hS => ?_)
  refine lv_aload_n hx hb dX7_add_33 rfl (lv_at hl 1 rfl) ?_
  refine lv_dup hx hb dX7_add_34 rfl ?_
  refine k_get (C := RX7) (T := TX7) (N := 9) (ci := 7) (v := .int 5) X hE hP 0 rfl rfl iX7 1 (by decide) w_144 rfl dX7_add_35 ?_
  refine lv_iconst (v := 1) hx hb dX7_add_38 (by decide) ?_
  refine lv_iadd hx hb dX7_add_39 ?_
  refine tk (y := 6) (by decide) ?_
  refine k_put (C := RX7) (T := TX7) (N := 9) (ci := 7) (v := .int 6) (ty := .int) X hE hP hD hS 0 rfl rfl iX7 tyX7 tyX7_ok nmX7 1 (by decide) w_144 rfl (by decide +kernel) rfl rfl (Nat.le_of_ble_eq_true rfl) [(h0, .inr (7, [.ref htb, .int 6, .int t0, .int t1, .int t2, .int t3, .int t4, .int t5, .int t6])), (htb, .inl (cA, 6000, .inl (upd (upd f 4 ((v >>> (24 &&& 31)) &&& 255)) 5 ((v >>> (16 &&& 31)) &&& 255))))] rfl dX7_add_40 (fun H locs hP hD hS => ?_)
  refine lv_iinc (v := 8) (lv' := [(2, .int 8), (0, .ref h0), (1, .int v)]) hx hb dX7_add_43 hl (k := 0) rfl (by decide) (by decide) rfl (fun ls hl => ?_)
  refine lv_goto (tgt := 3) hx hb dX7_add_46 (by decide) ?_
  refine lv_iload_n hx hb dX7_add_3 rfl (lv_at hl 0 rfl) ?_
  refine lv_if_lt (tgt := 49) hx hb dX7_add_4 (by decide) (fun c_4_3 => absurd c_4_3 (by decide)) (fun c_4_3 => ?_)
  refine lv_aload_n hx hb dX7_add_7 rfl (lv_at hl 1 rfl) ?_
  refine k_get (C := RX7) (T := TX7) (N := 9) (ci := 7) (v := .int 6) X hE hP 0 rfl rfl iX7 1 (by decide) w_144 rfl dX7_add_8 ?_
  refine lv_sipush (v := 6000) hx hb dX7_add_11 (by decide) ?_
  refine lv_icmp_ge (tgt := 49) hx hb dX7_add_14 (by decide) (fun c_14_4 => absurd c_14_4 (by decide)) (fun c_14_4 => ?_)
  refine lv_aload_n hx hb dX7_add_17 rfl (lv_at hl 1 rfl) ?_
  refine k_get (C := RX7) (T := TX7) (N := 9) (ci := 7) (v := .ref htb) X hE hP 0 rfl rfl iX7 0 (by decide) w_11 rfl dX7_add_18 ?_
  refine lv_aload_n hx hb dX7_add_21 rfl (lv_at hl 1 rfl) ?_
  refine k_get (C := RX7) (T := TX7) (N := 9) (ci := 7) (v := .int 6) X hE hP 0 rfl rfl iX7 1 (by decide) w_144 rfl dX7_add_22 ?_
  refine lv_iload_n hx hb dX7_add_25 rfl (lv_at hl 2 rfl) ?_
  refine lv_iload_n hx hb dX7_add_26 rfl (lv_at hl 0 rfl) ?_
  refine lv_ishr hx hb dX7_add_27 ?_
  refine lv_sipush (v := 255) hx hb dX7_add_28 (by decide) ?_
  refine lv_iand hx hb dX7_add_31 ?_
  refine k_ast X hE hP hD hS 1 rfl 6 rfl (by decide) (by decide) [(h0, .inr (7, [.ref htb, .int 6, .int t0, .int t1, .int t2, .int t3, .int t4, .int t5, .int t6])), (htb, .inl (cA, 6000, .inl (upd (upd (upd f 4 ((v >>> (24 &&& 31)) &&& 255)) 5 ((v >>> (16 &&& 31)) &&& 255)) 6 ((v >>> (8 &&& 31)) &&& 255))))] rfl dX7_add_32 (fun H locs hP hD hS => ?_)
  refine lv_aload_n hx hb dX7_add_33 rfl (lv_at hl 1 rfl) ?_
  refine lv_dup hx hb dX7_add_34 rfl ?_
  refine k_get (C := RX7) (T := TX7) (N := 9) (ci := 7) (v := .int 6) X hE hP 0 rfl rfl iX7 1 (by decide) w_144 rfl dX7_add_35 ?_
  refine lv_iconst (v := 1) hx hb dX7_add_38 (by decide) ?_
  refine lv_iadd hx hb dX7_add_39 ?_
  refine tk (y := 7) (by decide) ?_
  refine k_put (C := RX7) (T := TX7) (N := 9) (ci := 7) (v := .int 7) (ty := .int) X hE hP hD hS 0 rfl rfl iX7 tyX7 tyX7_ok nmX7 1 (by decide) w_144 rfl (by decide +kernel) rfl rfl (Nat.le_of_ble_eq_true rfl) [(h0, .inr (7, [.ref htb, .int 7, .int t0, .int t1, .int t2, .int t3, .int t4, .int t5, .int t6])), (htb, .inl (cA, 6000, .inl (upd (upd (upd f 4 ((v >>> (24 &&& 31)) &&& 255)) 5 ((v >>> (16 &&& 31)) &&& 255)) 6 ((v >>> (8 &&& 31)) &&& 255))))] rfl dX7_add_40 (fun H locs hP hD hS => ?_)
  refine lv_iinc (v := 0) (lv' := [(2, .int 0), (0, .ref h0), (1, .int v)]) hx hb dX7_add_43 hl (k := 0) rfl (by decide) (by decide) rfl (fun ls hl => ?_)
  refine lv_goto (tgt := 3) hx hb dX7_add_46 (by decide) ?_
  refine lv_iload_n hx hb dX7_add_3 rfl (lv_at hl 0 rfl) ?_
  refine lv_if_lt (tgt := 49) hx hb dX7_add_4 (by decide) (fun c_4_5 => absurd c_4_5 (by decide)) (fun c_4_5 => ?_)
  refine lv_aload_n hx hb dX7_add_7 rfl (lv_at hl 1 rfl) ?_
  refine k_get (C := RX7) (T := TX7) (N := 9) (ci := 7) (v := .int 7) X hE hP 0 rfl rfl iX7 1 (by decide) w_144 rfl dX7_add_8 ?_
  refine lv_sipush (v := 6000) hx hb dX7_add_11 (by decide) ?_
  refine lv_icmp_ge (tgt := 49) hx hb dX7_add_14 (by decide) (fun c_14_6 => absurd c_14_6 (by decide)) (fun c_14_6 => ?_)
  refine lv_aload_n hx hb dX7_add_17 rfl (lv_at hl 1 rfl) ?_
  refine k_get (C := RX7) (T := TX7) (N := 9) (ci := 7) (v := .ref htb) X hE hP 0 rfl rfl iX7 0 (by decide) w_11 rfl dX7_add_18 ?_
  refine lv_aload_n hx hb dX7_add_21 rfl (lv_at hl 1 rfl) ?_
  refine k_get (C := RX7) (T := TX7) (N := 9) (ci := 7) (v := .int 7) X hE hP 0 rfl rfl iX7 1 (by decide) w_144 rfl dX7_add_22 ?_
  refine lv_iload_n hx hb dX7_add_25 rfl (lv_at hl 2 rfl) ?_
  refine lv_iload_n hx hb dX7_add_26 rfl (lv_at hl 0 rfl) ?_
  refine lv_ishr hx hb dX7_add_27 ?_
  refine lv_sipush (v := 255) hx hb dX7_add_28 (by decide) ?_
  refine lv_iand hx hb dX7_add_31 ?_
  refine k_ast X hE hP hD hS 1 rfl 7 rfl (by decide) (by decide) [(h0, .inr (7, [.ref htb, .int 7, .int t0, .int t1, .int t2, .int t3, .int t4, .int t5, .int t6])), (htb, .inl (cA, 6000, .inl (upd (upd (upd (upd f 4 ((v >>> (24 &&& 31)) &&& 255)) 5 ((v >>> (16 &&& 31)) &&& 255)) 6 ((v >>> (8 &&& 31)) &&& 255)) 7 ((v >>> (0 &&& 31)) &&& 255))))] rfl dX7_add_32 (fun H locs hP hD hS => ?_)
  refine lv_aload_n hx hb dX7_add_33 rfl (lv_at hl 1 rfl) ?_
  refine lv_dup hx hb dX7_add_34 rfl ?_
  refine k_get (C := RX7) (T := TX7) (N := 9) (ci := 7) (v := .int 7) X hE hP 0 rfl rfl iX7 1 (by decide) w_144 rfl dX7_add_35 ?_
  refine lv_iconst (v := 1) hx hb dX7_add_38 (by decide) ?_
  refine lv_iadd hx hb dX7_add_39 ?_
  refine tk (y := 8) (by decide) ?_
  refine k_put (C := RX7) (T := TX7) (N := 9) (ci := 7) (v := .int 8) (ty := .int) X hE hP hD hS 0 rfl rfl iX7 tyX7 tyX7_ok nmX7 1 (by decide) w_144 rfl (by decide +kernel) rfl rfl (Nat.le_of_ble_eq_true rfl) [(h0, .inr (7, [.ref htb, .int 8, .int t0, .int t1, .int t2, .int t3, .int t4, .int t5, .int t6])), (htb, .inl (cA, 6000, .inl (upd (upd (upd (upd f 4 ((v >>> (24 &&& 31)) &&& 255)) 5 ((v >>> (16 &&& 31)) &&& 255)) 6 ((v >>> (8 &&& 31)) &&& 255)) 7 ((v >>> (0 &&& 31)) &&& 255))))] rfl dX7_add_40 (fun H locs hP hD hS => ?_)
  refine lv_iinc (v := (-8)) (lv' := [(2, .int (-8)), (0, .ref h0), (1, .int v)]) hx hb dX7_add_43 hl (k := 0) rfl (by decide) (by decide) rfl (fun ls hl => ?_)
  refine lv_goto (tgt := 3) hx hb dX7_add_46 (by decide) ?_
  refine lv_iload_n hx hb dX7_add_3 rfl (lv_at hl 0 rfl) ?_
  refine lv_if_lt (tgt := 49) hx hb dX7_add_4 (by decide) (fun c_4_7 => ?_) (fun c_4_7 => absurd (by decide) c_4_7)
  exact endV X hr hlocks hP hD hS dX7_add_49 ⟨(upd (upd (upd (upd f 4 ((v >>> (24 &&& 31)) &&& 255)) 5 ((v >>> (16 &&& 31)) &&& 255)) 6 ((v >>> (8 &&& 31)) &&& 255)) 7 ((v >>> (0 &&& 31)) &&& 255)), rfl⟩
set_option maxHeartbeats 4000000 in
set_option maxRecDepth 100000 in
theorem c_add8 (l : Launch) (D : va_G) (cA cB : ClassId) (h0 : Nat) (htb : Nat) (t0 : Int32) (t1 : Int32) (t2 : Int32) (t3 : Int32) (t4 : Int32) (t5 : Int32) (t6 : Int32) (f : Nat → Int32) (v : Int32)  : CV l yX7_add cX7_add 3 none 0 0 0 0 D cA cB [.ref h0, .int v] [(h0, .inr (7, [.ref htb, .int 8, .int t0, .int t1, .int t2, .int t3, .int t4, .int t5, .int t6])), (htb, .inl (cA, 6000, .inl f))] (fun W1 => ∃ (g : Nat → Int32), W1 = [(h0, .inr (7, [.ref htb, .int 12, .int t0, .int t1, .int t2, .int t3, .int t4, .int t5, .int t6])), (htb, .inl (cA, 6000, .inl g))]) := by
  refine mkV (lv0 := [(0, .ref h0), (1, .int v)]) (by decide) (Nat.le_of_ble_eq_true rfl) rfl ?_
  intro p e s m below meth c A ls X hr hlocks hnm hE hA hP hD hS hl
  have hx := X.1
  have hb := X.2.1
  refine lv_bipush (v := 24) hx hb dX7_add_0 (by decide) ?_
  refine lv_istore_n (lv' := [(2, .int 24), (0, .ref h0), (1, .int v)]) hx hb dX7_add_2 rfl hl (by decide) rfl (fun ls hl => ?_)
  refine lv_iload_n hx hb dX7_add_3 rfl (lv_at hl 0 rfl) ?_
  refine lv_if_lt (tgt := 49) hx hb dX7_add_4 (by decide) (fun c_4 => absurd c_4 (by decide)) (fun c_4 => ?_)
  refine lv_aload_n hx hb dX7_add_7 rfl (lv_at hl 1 rfl) ?_
  refine k_get (C := RX7) (T := TX7) (N := 9) (ci := 7) (v := .int 8) X hE hP 0 rfl rfl iX7 1 (by decide) w_144 rfl dX7_add_8 ?_
  refine lv_sipush (v := 6000) hx hb dX7_add_11 (by decide) ?_
  refine lv_icmp_ge (tgt := 49) hx hb dX7_add_14 (by decide) (fun c_14 => absurd c_14 (by decide)) (fun c_14 => ?_)
  refine lv_aload_n hx hb dX7_add_17 rfl (lv_at hl 1 rfl) ?_
  refine k_get (C := RX7) (T := TX7) (N := 9) (ci := 7) (v := .ref htb) X hE hP 0 rfl rfl iX7 0 (by decide) w_11 rfl dX7_add_18 ?_
  refine lv_aload_n hx hb dX7_add_21 rfl (lv_at hl 1 rfl) ?_
  refine k_get (C := RX7) (T := TX7) (N := 9) (ci := 7) (v := .int 8) X hE hP 0 rfl rfl iX7 1 (by decide) w_144 rfl dX7_add_22 ?_
  refine lv_iload_n hx hb dX7_add_25 rfl (lv_at hl 2 rfl) ?_
  refine lv_iload_n hx hb dX7_add_26 rfl (lv_at hl 0 rfl) ?_
  refine lv_ishr hx hb dX7_add_27 ?_
  refine lv_sipush (v := 255) hx hb dX7_add_28 (by decide) ?_
  refine lv_iand hx hb dX7_add_31 ?_
  refine k_ast X hE hP hD hS 1 rfl 8 rfl (by decide) (by decide) [(h0, .inr (7, [.ref htb, .int 8, .int t0, .int t1, .int t2, .int t3, .int t4, .int t5, .int t6])), (htb, .inl (cA, 6000, .inl (upd f 8 ((v >>> (24 &&& 31)) &&& 255))))] rfl dX7_add_32 (fun H locs hP hD hS => ?_)
  refine lv_aload_n hx hb dX7_add_33 rfl (lv_at hl 1 rfl) ?_
  refine lv_dup hx hb dX7_add_34 rfl ?_
  refine k_get (C := RX7) (T := TX7) (N := 9) (ci := 7) (v := .int 8) X hE hP 0 rfl rfl iX7 1 (by decide) w_144 rfl dX7_add_35 ?_
  refine lv_iconst (v := 1) hx hb dX7_add_38 (by decide) ?_
  refine lv_iadd hx hb dX7_add_39 ?_
  refine tk (y := 9) (by decide) ?_
  refine k_put (C := RX7) (T := TX7) (N := 9) (ci := 7) (v := .int 9) (ty := .int) X hE hP hD hS 0 rfl rfl iX7 tyX7 tyX7_ok nmX7 1 (by decide) w_144 rfl (by decide +kernel) rfl rfl (Nat.le_of_ble_eq_true rfl) [(h0, .inr (7, [.ref htb, .int 9, .int t0, .int t1, .int t2, .int t3, .int t4, .int t5, .int t6])), (htb, .inl (cA, 6000, .inl (upd f 8 ((v >>> (24 &&& 31)) &&& 255))))] rfl dX7_add_40 (fun H locs hP hD hS => ?_)
  refine lv_iinc (v := 16) (lv' := [(2, .int 16), (0, .ref h0), (1, .int v)]) hx hb dX7_add_43 hl (k := 0) rfl (by decide) (by decide) rfl (fun ls hl => ?_)
  refine lv_goto (tgt := 3) hx hb dX7_add_46 (by decide) ?_
  refine lv_iload_n hx hb dX7_add_3 rfl (lv_at hl 0 rfl) ?_
  refine lv_if_lt (tgt := 49) hx hb dX7_add_4 (by decide) (fun c_4_1 => absurd c_4_1 (by decide)) (fun c_4_1 => ?_)
  refine lv_aload_n hx hb dX7_add_7 rfl (lv_at hl 1 rfl) ?_
  refine k_get (C := RX7) (T := TX7) (N := 9) (ci := 7) (v := .int 9) X hE hP 0 rfl rfl iX7 1 (by decide) w_144 rfl dX7_add_8 ?_
  refine lv_sipush (v := 6000) hx hb dX7_add_11 (by decide) ?_
  refine lv_icmp_ge (tgt := 49) hx hb dX7_add_14 (by decide) (fun c_14_2 => absurd c_14_2 (by decide)) (fun c_14_2 => ?_)
  refine lv_aload_n hx hb dX7_add_17 rfl (lv_at hl 1 rfl) ?_
  refine k_get (C := RX7) (T := TX7) (N := 9) (ci := 7) (v := .ref htb) X hE hP 0 rfl rfl iX7 0 (by decide) w_11 rfl dX7_add_18 ?_
  refine lv_aload_n hx hb dX7_add_21 rfl (lv_at hl 1 rfl) ?_
  refine k_get (C := RX7) (T := TX7) (N := 9) (ci := 7) (v := .int 9) X hE hP 0 rfl rfl iX7 1 (by decide) w_144 rfl dX7_add_22 ?_
  refine lv_iload_n hx hb dX7_add_25 rfl (lv_at hl 2 rfl) ?_
  refine lv_iload_n hx hb dX7_add_26 rfl (lv_at hl 0 rfl) ?_
  refine lv_ishr hx hb dX7_add_27 ?_
  refine lv_sipush (v := 255) hx hb dX7_add_28 (by decide) ?_
  refine lv_iand hx hb dX7_add_31 ?_
  refine k_ast X hE hP hD hS 1 rfl 9 rfl (by decide) (by decide) [(h0, .inr (7, [.ref htb, .int 9, .int t0, .int t1, .int t2, .int t3, .int t4, .int t5, .int t6])), (htb, .inl (cA, 6000, .inl (upd (upd f 8 ((v >>> (24 &&& 31)) &&& 255)) 9 ((v >>> (16 &&& 31)) &&& 255))))] rfl dX7_add_32 (fun H locs hP hD hS => ?_)
  refine lv_aload_n hx hb dX7_add_33 rfl (lv_at hl 1 rfl) ?_
  refine lv_dup hx hb dX7_add_34 rfl ?_
  refine k_get (C := RX7) (T := TX7) (N := 9) (ci := 7) (v := .int 9) X hE hP 0 rfl rfl iX7 1 (by decide) w_144 rfl dX7_add_35 ?_
  refine lv_iconst (v := 1) hx hb dX7_add_38 (by decide) ?_
  refine lv_iadd hx hb dX7_add_39 ?_
  refine tk (y := 10) (by decide) ?_
  refine k_put (C := RX7) (T := TX7) (N := 9) (ci := 7) (v := .int 10) (ty := .int) X hE hP hD hS 0 rfl rfl iX7 tyX7 tyX7_ok nmX7 1 (by decide) w_144 rfl (by decide +kernel) rfl rfl (Nat.le_of_ble_eq_true rfl) [(h0, .inr (7, [.ref htb, .int 10, .int t0, .int t1, .int t2, .int t3, .int t4, .int t5, .int t6])), (htb, .inl (cA, 6000, .inl (upd (upd f 8 ((v >>> (24 &&& 31)) &&& 255)) 9 ((v >>> (16 &&& 31)) &&& 255))))] rfl dX7_add_40 (fun H locs hP hD hS => ?_)
  refine lv_iinc (v := 8) (lv' := [(2, .int 8), (0, .ref h0), (1, .int v)]) hx hb dX7_add_43 hl (k := 0) rfl (by decide) (by decide) rfl (fun ls hl => ?_)
  refine lv_goto (tgt := 3) hx hb dX7_add_46 (by decide) ?_
  refine lv_iload_n hx hb dX7_add_3 rfl (lv_at hl 0 rfl) ?_
  refine lv_if_lt (tgt := 49) hx hb dX7_add_4 (by decide) (fun c_4_3 => absurd c_4_3 (by decide)) (fun c_4_3 => ?_)
  refine lv_aload_n hx hb dX7_add_7 rfl (lv_at hl 1 rfl) ?_
  refine k_get (C := RX7) (T := TX7) (N := 9) (ci := 7) (v := .int 10) X hE hP 0 rfl rfl iX7 1 (by decide) w_144 rfl dX7_add_8 ?_
  refine lv_sipush (v := 6000) hx hb dX7_add_11 (by decide) ?_
  refine lv_icmp_ge (tgt := 49) hx hb dX7_add_14 (by decide) (fun c_14_4 => absurd c_14_4 (by decide)) (fun c_14_4 => ?_)
  refine lv_aload_n hx hb dX7_add_17 rfl (lv_at hl 1 rfl) ?_
  refine k_get (C := RX7) (T := TX7) (N := 9) (ci := 7) (v := .ref htb) X hE hP 0 rfl rfl iX7 0 (by decide) w_11 rfl dX7_add_18 ?_
  refine lv_aload_n hx hb dX7_add_21 rfl (lv_at hl 1 rfl) ?_
  refine k_get (C := RX7) (T := TX7) (N := 9) (ci := 7) (v := .int 10) X hE hP 0 rfl rfl iX7 1 (by decide) w_144 rfl dX7_add_22 ?_
  refine lv_iload_n hx hb dX7_add_25 rfl (lv_at hl 2 rfl) ?_
  refine lv_iload_n hx hb dX7_add_26 rfl (lv_at hl 0 rfl) ?_
  refine lv_ishr hx hb dX7_add_27 ?_
  refine lv_sipush (v := 255) hx hb dX7_add_28 (by decide) ?_
  refine lv_iand hx hb dX7_add_31 ?_
  refine k_ast X hE hP hD hS 1 rfl 10 rfl (by decide) (by decide) [(h0, .inr (7, [.ref htb, .int 10, .int t0, .int t1, .int t2, .int t3, .int t4, .int t5, .int t6])), (htb, .inl (cA, 6000, .inl (upd (upd (upd f 8 ((v >>> (24 &&& 31)) &&& 255)) 9 ((v >>> (16 &&& 31)) &&& 255)) 10 ((v >>> (8 &&& 31)) &&& 255))))] rfl dX7_add_32 (fun H locs hP hD hS => ?_)
  refine lv_aload_n hx hb dX7_add_33 rfl (lv_at hl 1 rfl) ?_
  refine lv_dup hx hb dX7_add_34 rfl ?_
  refine k_get (C := RX7) (T := TX7) (N := 9) (ci := 7) (v := .int 10) X hE hP 0 rfl rfl iX7 1 (by decide) w_144 rfl dX7_add_35 ?_
  refine lv_iconst (v := 1) hx hb dX7_add_38 (by decide) ?_
  refine lv_iadd hx hb dX7_add_39 ?_
  refine tk (y := 11) (by decide) ?_
  refine k_put (C := RX7) (T := TX7) (N := 9) (ci := 7) (v := .int 11) (ty := .int) X hE hP hD hS 0 rfl rfl iX7 tyX7 tyX7_ok nmX7 1 (by decide) w_144 rfl (by decide +kernel) rfl rfl (Nat.le_of_ble_eq_true rfl) [(h0, .inr (7, [.ref htb, .int 11, .int t0, .int t1, .int t2, .int t3, .int t4, .int t5, .int t6])), (htb, .inl (cA, 6000, .inl (upd (upd (upd f 8 ((v >>> (24 &&& 31)) &&& 255)) 9 ((v >>> (16 &&& 31)) &&& 255)) 10 ((v >>> (8 &&& 31)) &&& 255))))] rfl dX7_add_40 (fun H locs hP hD hS => ?_)
  refine lv_iinc (v := 0) (lv' := [(2, .int 0), (0, .ref h0), (1, .int v)]) hx hb dX7_add_43 hl (k := 0) rfl (by decide) (by decide) rfl (fun ls hl => ?_)
  refine lv_goto (tgt := 3) hx hb dX7_add_46 (by decide) ?_
  refine lv_iload_n hx hb dX7_add_3 rfl (lv_at hl 0 rfl) ?_
  refine lv_if_lt (tgt := 49) hx hb dX7_add_4 (by decide) (fun c_4_5 => absurd c_4_5 (by decide)) (fun c_4_5 => ?_)
  refine lv_aload_n hx hb dX7_add_7 rfl (lv_at hl 1 rfl) ?_
  refine k_get (C := RX7) (T := TX7) (N := 9) (ci := 7) (v := .int 11) X hE hP 0 rfl rfl iX7 1 (by decide) w_144 rfl dX7_add_8 ?_
  refine lv_sipush (v := 6000) hx hb dX7_add_11 (by decide) ?_
  refine lv_icmp_ge (tgt := 49) hx hb dX7_add_14 (by decide) (fun c_14_6 => absurd c_14_6 (by decide)) (fun c_14_6 => ?_)
  refine lv_aload_n hx hb dX7_add_17 rfl (lv_at hl 1 rfl) ?_
  refine k_get (C := RX7) (T := TX7) (N := 9) (ci := 7) (v := .ref htb) X hE hP 0 rfl rfl iX7 0 (by decide) w_11 rfl dX7_add_18 ?_
  refine lv_aload_n hx hb dX7_add_21 rfl (lv_at hl 1 rfl) ?_
  refine k_get (C := RX7) (T := TX7) (N := 9) (ci := 7) (v := .int 11) X hE hP 0 rfl rfl iX7 1 (by decide) w_144 rfl dX7_add_22 ?_
  refine lv_iload_n hx hb dX7_add_25 rfl (lv_at hl 2 rfl) ?_
  refine lv_iload_n hx hb dX7_add_26 rfl (lv_at hl 0 rfl) ?_
  refine lv_ishr hx hb dX7_add_27 ?_
  refine lv_sipush (v := 255) hx hb dX7_add_28 (by decide) ?_
  refine lv_iand hx hb dX7_add_31 ?_
  refine k_ast X hE hP hD hS 1 rfl 11 rfl (by decide) (by decide) [(h0, .inr (7, [.ref htb, .int 11, .int t0, .int t1, .int t2, .int t3, .int t4, .int t5, .int t6])), (htb, .inl (cA, 6000, .inl (upd (upd (upd (upd f 8 ((v >>> (24 &&& 31)) &&& 255)) 9 ((v >>> (16 &&& 31)) &&& 255)) 10 ((v >>> (8 &&& 31)) &&& 255)) 11 ((v >>> (0 &&& 31)) &&& 255))))] rfl dX7_add_32 (fun H locs hP hD hS => ?_)
  refine lv_aload_n hx hb dX7_add_33 rfl (lv_at hl 1 rfl) ?_
  refine lv_dup hx hb dX7_add_34 rfl ?_
  refine k_get (C := RX7) (T := TX7) (N := 9) (ci := 7) (v := .int 11) X hE hP 0 rfl rfl iX7 1 (by decide) w_144 rfl dX7_add_35 ?_
  refine lv_iconst (v := 1) hx hb dX7_add_38 (by decide) ?_
  refine lv_iadd hx hb dX7_add_39 ?_
  refine tk (y := 12) (by decide) ?_
  refine k_put (C := RX7) (T := TX7) (N := 9) (ci := 7) (v := .int 12) (ty := .int) X hE hP hD hS 0 rfl rfl iX7 tyX7 tyX7_ok nmX7 1 (by decide) w_144 rfl (by decide +kernel) rfl rfl (Nat.le_of_ble_eq_true rfl) [(h0, .inr (7, [.ref htb, .int 12, .int t0, .int t1, .int t2, .int t3, .int t4, .int t5, .int t6])), (htb, .inl (cA, 6000, .inl (upd (upd (upd (upd f 8 ((v >>> (24 &&& 31)) &&& 255)) 9 ((v >>> (16 &&& 31)) &&& 255)) 10 ((v >>> (8 &&& 31)) &&& 255)) 11 ((v >>> (0 &&& 31)) &&& 255))))] rfl dX7_add_40 (fun H locs hP hD hS => ?_)
  refine lv_iinc (v := (-8)) (lv' := [(2, .int (-8)), (0, .ref h0), (1, .int v)]) hx hb dX7_add_43 hl (k := 0) rfl (by decide) (by decide) rfl (fun ls hl => ?_)
  refine lv_goto (tgt := 3) hx hb dX7_add_46 (by decide) ?_
  refine lv_iload_n hx hb dX7_add_3 rfl (lv_at hl 0 rfl) ?_
  refine lv_if_lt (tgt := 49) hx hb dX7_add_4 (by decide) (fun c_4_7 => ?_) (fun c_4_7 => absurd (by decide) c_4_7)
  exact endV X hr hlocks hP hD hS dX7_add_49 ⟨(upd (upd (upd (upd f 8 ((v >>> (24 &&& 31)) &&& 255)) 9 ((v >>> (16 &&& 31)) &&& 255)) 10 ((v >>> (8 &&& 31)) &&& 255)) 11 ((v >>> (0 &&& 31)) &&& 255)), rfl⟩
set_option maxHeartbeats 4000000 in
set_option maxRecDepth 100000 in
theorem c_add12 (l : Launch) (D : va_G) (cA cB : ClassId) (h0 : Nat) (htb : Nat) (t0 : Int32) (t1 : Int32) (t2 : Int32) (t3 : Int32) (t4 : Int32) (t5 : Int32) (t6 : Int32) (f : Nat → Int32) (v : Int32)  : CV l yX7_add cX7_add 3 none 0 0 0 0 D cA cB [.ref h0, .int v] [(h0, .inr (7, [.ref htb, .int 12, .int t0, .int t1, .int t2, .int t3, .int t4, .int t5, .int t6])), (htb, .inl (cA, 6000, .inl f))] (fun W1 => ∃ (g : Nat → Int32), W1 = [(h0, .inr (7, [.ref htb, .int 16, .int t0, .int t1, .int t2, .int t3, .int t4, .int t5, .int t6])), (htb, .inl (cA, 6000, .inl g))]) := by
  refine mkV (lv0 := [(0, .ref h0), (1, .int v)]) (by decide) (Nat.le_of_ble_eq_true rfl) rfl ?_
  intro p e s m below meth c A ls X hr hlocks hnm hE hA hP hD hS hl
  have hx := X.1
  have hb := X.2.1
  refine lv_bipush (v := 24) hx hb dX7_add_0 (by decide) ?_
  refine lv_istore_n (lv' := [(2, .int 24), (0, .ref h0), (1, .int v)]) hx hb dX7_add_2 rfl hl (by decide) rfl (fun ls hl => ?_)
  refine lv_iload_n hx hb dX7_add_3 rfl (lv_at hl 0 rfl) ?_
  refine lv_if_lt (tgt := 49) hx hb dX7_add_4 (by decide) (fun c_4 => absurd c_4 (by decide)) (fun c_4 => ?_)
  refine lv_aload_n hx hb dX7_add_7 rfl (lv_at hl 1 rfl) ?_
  refine k_get (C := RX7) (T := TX7) (N := 9) (ci := 7) (v := .int 12) X hE hP 0 rfl rfl iX7 1 (by decide) w_144 rfl dX7_add_8 ?_
  refine lv_sipush (v := 6000) hx hb dX7_add_11 (by decide) ?_
  refine lv_icmp_ge (tgt := 49) hx hb dX7_add_14 (by decide) (fun c_14 => absurd c_14 (by decide)) (fun c_14 => ?_)
  refine lv_aload_n hx hb dX7_add_17 rfl (lv_at hl 1 rfl) ?_
  refine k_get (C := RX7) (T := TX7) (N := 9) (ci := 7) (v := .ref htb) X hE hP 0 rfl rfl iX7 0 (by decide) w_11 rfl dX7_add_18 ?_
  refine lv_aload_n hx hb dX7_add_21 rfl (lv_at hl 1 rfl) ?_
  refine k_get (C := RX7) (T := TX7) (N := 9) (ci := 7) (v := .int 12) X hE hP 0 rfl rfl iX7 1 (by decide) w_144 rfl dX7_add_22 ?_
  refine lv_iload_n hx hb dX7_add_25 rfl (lv_at hl 2 rfl) ?_
  refine lv_iload_n hx hb dX7_add_26 rfl (lv_at hl 0 rfl) ?_
  refine lv_ishr hx hb dX7_add_27 ?_
  refine lv_sipush (v := 255) hx hb dX7_add_28 (by decide) ?_
  refine lv_iand hx hb dX7_add_31 ?_
  refine k_ast X hE hP hD hS 1 rfl 12 rfl (by decide) (by decide) [(h0, .inr (7, [.ref htb, .int 12, .int t0, .int t1, .int t2, .int t3, .int t4, .int t5, .int t6])), (htb, .inl (cA, 6000, .inl (upd f 12 ((v >>> (24 &&& 31)) &&& 255))))] rfl dX7_add_32 (fun H locs hP hD hS => ?_)
  refine lv_aload_n hx hb dX7_add_33 rfl (lv_at hl 1 rfl) ?_
  refine lv_dup hx hb dX7_add_34 rfl ?_
  refine k_get (C := RX7) (T := TX7) (N := 9) (ci := 7) (v := .int 12) X hE hP 0 rfl rfl iX7 1 (by decide) w_144 rfl dX7_add_35 ?_
  refine lv_iconst (v := 1) hx hb dX7_add_38 (by decide) ?_
  refine lv_iadd hx hb dX7_add_39 ?_
  refine tk (y := 13) (by decide) ?_
  refine k_put (C := RX7) (T := TX7) (N := 9) (ci := 7) (v := .int 13) (ty := .int) X hE hP hD hS 0 rfl rfl iX7 tyX7 tyX7_ok nmX7 1 (by decide) w_144 rfl (by decide +kernel) rfl rfl (Nat.le_of_ble_eq_true rfl) [(h0, .inr (7, [.ref htb, .int 13, .int t0, .int t1, .int t2, .int t3, .int t4, .int t5, .int t6])), (htb, .inl (cA, 6000, .inl (upd f 12 ((v >>> (24 &&& 31)) &&& 255))))] rfl dX7_add_40 (fun H locs hP hD hS => ?_)
  refine lv_iinc (v := 16) (lv' := [(2, .int 16), (0, .ref h0), (1, .int v)]) hx hb dX7_add_43 hl (k := 0) rfl (by decide) (by decide) rfl (fun ls hl => ?_)
  refine lv_goto (tgt := 3) hx hb dX7_add_46 (by decide) ?_
  refine lv_iload_n hx hb dX7_add_3 rfl (lv_at hl 0 rfl) ?_
  refine lv_if_lt (tgt := 49) hx hb dX7_add_4 (by decide) (fun c_4_1 => absurd c_4_1 (by decide)) (fun c_4_1 => ?_)
  refine lv_aload_n hx hb dX7_add_7 rfl (lv_at hl 1 rfl) ?_
  refine k_get (C := RX7) (T := TX7) (N := 9) (ci := 7) (v := .int 13) X hE hP 0 rfl rfl iX7 1 (by decide) w_144 rfl dX7_add_8 ?_
  refine lv_sipush (v := 6000) hx hb dX7_add_11 (by decide) ?_
  refine lv_icmp_ge (tgt := 49) hx hb dX7_add_14 (by decide) (fun c_14_2 => absurd c_14_2 (by decide)) (fun c_14_2 => ?_)
  refine lv_aload_n hx hb dX7_add_17 rfl (lv_at hl 1 rfl) ?_
  refine k_get (C := RX7) (T := TX7) (N := 9) (ci := 7) (v := .ref htb) X hE hP 0 rfl rfl iX7 0 (by decide) w_11 rfl dX7_add_18 ?_
  refine lv_aload_n hx hb dX7_add_21 rfl (lv_at hl 1 rfl) ?_
  refine k_get (C := RX7) (T := TX7) (N := 9) (ci := 7) (v := .int 13) X hE hP 0 rfl rfl iX7 1 (by decide) w_144 rfl dX7_add_22 ?_
  refine lv_iload_n hx hb dX7_add_25 rfl (lv_at hl 2 rfl) ?_
  refine lv_iload_n hx hb dX7_add_26 rfl (lv_at hl 0 rfl) ?_
  refine lv_ishr hx hb dX7_add_27 ?_
  refine lv_sipush (v := 255) hx hb dX7_add_28 (by decide) ?_
  refine lv_iand hx hb dX7_add_31 ?_
  refine k_ast X hE hP hD hS 1 rfl 13 rfl (by decide) (by decide) [(h0, .inr (7, [.ref htb, .int 13, .int t0, .int t1, .int t2, .int t3, .int t4, .int t5, .int t6])), (htb, .inl (cA, 6000, .inl (upd (upd f 12 ((v >>> (24 &&& 31)) &&& 255)) 13 ((v >>> (16 &&& 31)) &&& 255))))] rfl dX7_add_32 (fun H locs hP hD hS => ?_)
  refine lv_aload_n hx hb dX7_add_33 rfl (lv_at hl 1 rfl) ?_
  refine lv_dup hx hb dX7_add_34 rfl ?_
  refine k_get (C := RX7) (T := TX7) (N := 9) (ci := 7) (v := .int 13) X hE hP 0 rfl rfl iX7 1 (by decide) w_144 rfl dX7_add_35 ?_
  refine lv_iconst (v := 1) hx hb dX7_add_38 (by decide) ?_
  refine lv_iadd hx hb dX7_add_39 ?_
  refine tk (y := 14) (by decide) ?_
  refine k_put (C := RX7) (T := TX7) (N := 9) (ci := 7) (v := .int 14) (ty := .int) X hE hP hD hS 0 rfl rfl iX7 tyX7 tyX7_ok nmX7 1 (by decide) w_144 rfl (by decide +kernel) rfl rfl (Nat.le_of_ble_eq_true rfl) [(h0, .inr (7, [.ref htb, .int 14, .int t0, .int t1, .int t2, .int t3, .int t4, .int t5, .int t6])), (htb, .inl (cA, 6000, .inl (upd (upd f 12 ((v >>> (24 &&& 31)) &&& 255)) 13 ((v >>> (16 &&& 31)) &&& 255))))] rfl dX7_add_40 (fun H locs hP hD hS => ?_)
  refine lv_iinc (v := 8) (lv' := [(2, .int 8), (0, .ref h0), (1, .int v)]) hx hb dX7_add_43 hl (k := 0) rfl (by decide) (by decide) rfl (fun ls hl => ?_)
  refine lv_goto (tgt := 3) hx hb dX7_add_46 (by decide) ?_
  refine lv_iload_n hx hb dX7_add_3 rfl (lv_at hl 0 rfl) ?_
  refine lv_if_lt (tgt := 49) hx hb dX7_add_4 (by decide) (fun c_4_3 => absurd c_4_3 (by decide)) (fun c_4_3 => ?_)
  refine lv_aload_n hx hb dX7_add_7 rfl (lv_at hl 1 rfl) ?_
  refine k_get (C := RX7) (T := TX7) (N := 9) (ci := 7) (v := .int 14) X hE hP 0 rfl rfl iX7 1 (by decide) w_144 rfl dX7_add_8 ?_
  refine lv_sipush (v := 6000) hx hb dX7_add_11 (by decide) ?_
  refine lv_icmp_ge (tgt := 49) hx hb dX7_add_14 (by decide) (fun c_14_4 => absurd c_14_4 (by decide)) (fun c_14_4 => ?_)
  refine lv_aload_n hx hb dX7_add_17 rfl (lv_at hl 1 rfl) ?_
  refine k_get (C := RX7) (T := TX7) (N := 9) (ci := 7) (v := .ref htb) X hE hP 0 rfl rfl iX7 0 (by decide) w_11 rfl dX7_add_18 ?_
  refine lv_aload_n hx hb dX7_add_21 rfl (lv_at hl 1 rfl) ?_
  refine k_get (C := RX7) (T := TX7) (N := 9) (ci := 7) (v := .int 14) X hE hP 0 rfl rfl iX7 1 (by decide) w_144 rfl dX7_add_22 ?_
  refine lv_iload_n hx hb dX7_add_25 rfl (lv_at hl 2 rfl) ?_
  refine lv_iload_n hx hb dX7_add_26 rfl (lv_at hl 0 rfl) ?_
  refine lv_ishr hx hb dX7_add_27 ?_
  refine lv_sipush (v := 255) hx hb dX7_add_28 (by decide) ?_
  refine lv_iand hx hb dX7_add_31 ?_
  refine k_ast X hE hP hD hS 1 rfl 14 rfl (by decide) (by decide) [(h0, .inr (7, [.ref htb, .int 14, .int t0, .int t1, .int t2, .int t3, .int t4, .int t5, .int t6])), (htb, .inl (cA, 6000, .inl (upd (upd (upd f 12 ((v >>> (24 &&& 31)) &&& 255)) 13 ((v >>> (16 &&& 31)) &&& 255)) 14 ((v >>> (8 &&& 31)) &&& 255))))] rfl dX7_add_32 (fun H locs hP hD hS => ?_)
  refine lv_aload_n hx hb dX7_add_33 rfl (lv_at hl 1 rfl) ?_
  refine lv_dup hx hb dX7_add_34 rfl ?_
  refine k_get (C := RX7) (T := TX7) (N := 9) (ci := 7) (v := .int 14) X hE hP 0 rfl rfl iX7 1 (by decide) w_144 rfl dX7_add_35 ?_
  refine lv_iconst (v := 1) hx hb dX7_add_38 (by decide) ?_
  refine lv_iadd hx hb dX7_add_39 ?_
  refine tk (y := 15) (by decide) ?_
  refine k_put (C := RX7) (T := TX7) (N := 9) (ci := 7) (v := .int 15) (ty := .int) X hE hP hD hS 0 rfl rfl iX7 tyX7 tyX7_ok nmX7 1 (by decide) w_144 rfl (by decide +kernel) rfl rfl (Nat.le_of_ble_eq_true rfl) [(h0, .inr (7, [.ref htb, .int 15, .int t0, .int t1, .int t2, .int t3, .int t4, .int t5, .int t6])), (htb, .inl (cA, 6000, .inl (upd (upd (upd f 12 ((v >>> (24 &&& 31)) &&& 255)) 13 ((v >>> (16 &&& 31)) &&& 255)) 14 ((v >>> (8 &&& 31)) &&& 255))))] rfl dX7_add_40 (fun H locs hP hD hS => ?_)
  refine lv_iinc (v := 0) (lv' := [(2, .int 0), (0, .ref h0), (1, .int v)]) hx hb dX7_add_43 hl (k := 0) rfl (by decide) (by decide) rfl (fun ls hl => ?_)
  refine lv_goto (tgt := 3) hx hb dX7_add_46 (by decide) ?_
  refine lv_iload_n hx hb dX7_add_3 rfl (lv_at hl 0 rfl) ?_
  refine lv_if_lt (tgt := 49) hx hb dX7_add_4 (by decide) (fun c_4_5 => absurd c_4_5 (by decide)) (fun c_4_5 => ?_)
  refine lv_aload_n hx hb dX7_add_7 rfl (lv_at hl 1 rfl) ?_
  refine k_get (C := RX7) (T := TX7) (N := 9) (ci := 7) (v := .int 15) X hE hP 0 rfl rfl iX7 1 (by decide) w_144 rfl dX7_add_8 ?_
  refine lv_sipush (v := 6000) hx hb dX7_add_11 (by decide) ?_
  refine lv_icmp_ge (tgt := 49) hx hb dX7_add_14 (by decide) (fun c_14_6 => absurd c_14_6 (by decide)) (fun c_14_6 => ?_)
  refine lv_aload_n hx hb dX7_add_17 rfl (lv_at hl 1 rfl) ?_
  refine k_get (C := RX7) (T := TX7) (N := 9) (ci := 7) (v := .ref htb) X hE hP 0 rfl rfl iX7 0 (by decide) w_11 rfl dX7_add_18 ?_
  refine lv_aload_n hx hb dX7_add_21 rfl (lv_at hl 1 rfl) ?_
  refine k_get (C := RX7) (T := TX7) (N := 9) (ci := 7) (v := .int 15) X hE hP 0 rfl rfl iX7 1 (by decide) w_144 rfl dX7_add_22 ?_
  refine lv_iload_n hx hb dX7_add_25 rfl (lv_at hl 2 rfl) ?_
  refine lv_iload_n hx hb dX7_add_26 rfl (lv_at hl 0 rfl) ?_
  refine lv_ishr hx hb dX7_add_27 ?_
  refine lv_sipush (v := 255) hx hb dX7_add_28 (by decide) ?_
  refine lv_iand hx hb dX7_add_31 ?_
  refine k_ast X hE hP hD hS 1 rfl 15 rfl (by decide) (by decide) [(h0, .inr (7, [.ref htb, .int 15, .int t0, .int t1, .int t2, .int t3, .int t4, .int t5, .int t6])), (htb, .inl (cA, 6000, .inl (upd (upd (upd (upd f 12 ((v >>> (24 &&& 31)) &&& 255)) 13 ((v >>> (16 &&& 31)) &&& 255)) 14 ((v >>> (8 &&& 31)) &&& 255)) 15 ((v >>> (0 &&& 31)) &&& 255))))] rfl dX7_add_32 (fun H locs hP hD hS => ?_)
  refine lv_aload_n hx hb dX7_add_33 rfl (lv_at hl 1 rfl) ?_
  refine lv_dup hx hb dX7_add_34 rfl ?_
  refine k_get (C := RX7) (T := TX7) (N := 9) (ci := 7) (v := .int 15) X hE hP 0 rfl rfl iX7 1 (by decide) w_144 rfl dX7_add_35 ?_
  refine lv_iconst (v := 1) hx hb dX7_add_38 (by decide) ?_
  refine lv_iadd hx hb dX7_add_39 ?_
  refine tk (y := 16) (by decide) ?_
  refine k_put (C := RX7) (T := TX7) (N := 9) (ci := 7) (v := .int 16) (ty := .int) X hE hP hD hS 0 rfl rfl iX7 tyX7 tyX7_ok nmX7 1 (by decide) w_144 rfl (by decide +kernel) rfl rfl (Nat.le_of_ble_eq_true rfl) [(h0, .inr (7, [.ref htb, .int 16, .int t0, .int t1, .int t2, .int t3, .int t4, .int t5, .int t6])), (htb, .inl (cA, 6000, .inl (upd (upd (upd (upd f 12 ((v >>> (24 &&& 31)) &&& 255)) 13 ((v >>> (16 &&& 31)) &&& 255)) 14 ((v >>> (8 &&& 31)) &&& 255)) 15 ((v >>> (0 &&& 31)) &&& 255))))] rfl dX7_add_40 (fun H locs hP hD hS => ?_)
  refine lv_iinc (v := (-8)) (lv' := [(2, .int (-8)), (0, .ref h0), (1, .int v)]) hx hb dX7_add_43 hl (k := 0) rfl (by decide) (by decide) rfl (fun ls hl => ?_)
  refine lv_goto (tgt := 3) hx hb dX7_add_46 (by decide) ?_
  refine lv_iload_n hx hb dX7_add_3 rfl (lv_at hl 0 rfl) ?_
  refine lv_if_lt (tgt := 49) hx hb dX7_add_4 (by decide) (fun c_4_7 => ?_) (fun c_4_7 => absurd (by decide) c_4_7)
  exact endV X hr hlocks hP hD hS dX7_add_49 ⟨(upd (upd (upd (upd f 12 ((v >>> (24 &&& 31)) &&& 255)) 13 ((v >>> (16 &&& 31)) &&& 255)) 14 ((v >>> (8 &&& 31)) &&& 255)) 15 ((v >>> (0 &&& 31)) &&& 255)), rfl⟩
set_option maxHeartbeats 4000000 in
set_option maxRecDepth 100000 in
theorem c_add16 (l : Launch) (D : va_G) (cA cB : ClassId) (h0 : Nat) (htb : Nat) (t0 : Int32) (t1 : Int32) (t2 : Int32) (t3 : Int32) (t4 : Int32) (t5 : Int32) (t6 : Int32) (f : Nat → Int32) (v : Int32)  : CV l yX7_add cX7_add 3 none 0 0 0 0 D cA cB [.ref h0, .int v] [(h0, .inr (7, [.ref htb, .int 16, .int t0, .int t1, .int t2, .int t3, .int t4, .int t5, .int t6])), (htb, .inl (cA, 6000, .inl f))] (fun W1 => ∃ (g : Nat → Int32), W1 = [(h0, .inr (7, [.ref htb, .int 20, .int t0, .int t1, .int t2, .int t3, .int t4, .int t5, .int t6])), (htb, .inl (cA, 6000, .inl g))]) := by
  refine mkV (lv0 := [(0, .ref h0), (1, .int v)]) (by decide) (Nat.le_of_ble_eq_true rfl) rfl ?_
  intro p e s m below meth c A ls X hr hlocks hnm hE hA hP hD hS hl
  have hx := X.1
  have hb := X.2.1
  refine lv_bipush (v := 24) hx hb dX7_add_0 (by decide) ?_
  refine lv_istore_n (lv' := [(2, .int 24), (0, .ref h0), (1, .int v)]) hx hb dX7_add_2 rfl hl (by decide) rfl (fun ls hl => ?_)
  refine lv_iload_n hx hb dX7_add_3 rfl (lv_at hl 0 rfl) ?_
  refine lv_if_lt (tgt := 49) hx hb dX7_add_4 (by decide) (fun c_4 => absurd c_4 (by decide)) (fun c_4 => ?_)
  refine lv_aload_n hx hb dX7_add_7 rfl (lv_at hl 1 rfl) ?_
  refine k_get (C := RX7) (T := TX7) (N := 9) (ci := 7) (v := .int 16) X hE hP 0 rfl rfl iX7 1 (by decide) w_144 rfl dX7_add_8 ?_
  refine lv_sipush (v := 6000) hx hb dX7_add_11 (by decide) ?_
  refine lv_icmp_ge (tgt := 49) hx hb dX7_add_14 (by decide) (fun c_14 => absurd c_14 (by decide)) (fun c_14 => ?_)
  refine lv_aload_n hx hb dX7_add_17 rfl (lv_at hl 1 rfl) ?_
  refine k_get (C := RX7) (T := TX7) (N := 9) (ci := 7) (v := .ref htb) X hE hP 0 rfl rfl iX7 0 (by decide) w_11 rfl dX7_add_18 ?_
  refine lv_aload_n hx hb dX7_add_21 rfl (lv_at hl 1 rfl) ?_
  refine k_get (C := RX7) (T := TX7) (N := 9) (ci := 7) (v := .int 16) X hE hP 0 rfl rfl iX7 1 (by decide) w_144 rfl dX7_add_22 ?_
  refine lv_iload_n hx hb dX7_add_25 rfl (lv_at hl 2 rfl) ?_
  refine lv_iload_n hx hb dX7_add_26 rfl (lv_at hl 0 rfl) ?_
  refine lv_ishr hx hb dX7_add_27 ?_
  refine lv_sipush (v := 255) hx hb dX7_add_28 (by decide) ?_
  refine lv_iand hx hb dX7_add_31 ?_
  refine k_ast X hE hP hD hS 1 rfl 16 rfl (by decide) (by decide) [(h0, .inr (7, [.ref htb, .int 16, .int t0, .int t1, .int t2, .int t3, .int t4, .int t5, .int t6])), (htb, .inl (cA, 6000, .inl (upd f 16 ((v >>> (24 &&& 31)) &&& 255))))] rfl dX7_add_32 (fun H locs hP hD hS => ?_)
  refine lv_aload_n hx hb dX7_add_33 rfl (lv_at hl 1 rfl) ?_
  refine lv_dup hx hb dX7_add_34 rfl ?_
  refine k_get (C := RX7) (T := TX7) (N := 9) (ci := 7) (v := .int 16) X hE hP 0 rfl rfl iX7 1 (by decide) w_144 rfl dX7_add_35 ?_
  refine lv_iconst (v := 1) hx hb dX7_add_38 (by decide) ?_
  refine lv_iadd hx hb dX7_add_39 ?_
  refine tk (y := 17) (by decide) ?_
  refine k_put (C := RX7) (T := TX7) (N := 9) (ci := 7) (v := .int 17) (ty := .int) X hE hP hD hS 0 rfl rfl iX7 tyX7 tyX7_ok nmX7 1 (by decide) w_144 rfl (by decide +kernel) rfl rfl (Nat.le_of_ble_eq_true rfl) [(h0, .inr (7, [.ref htb, .int 17, .int t0, .int t1, .int t2, .int t3, .int t4, .int t5, .int t6])), (htb, .inl (cA, 6000, .inl (upd f 16 ((v >>> (24 &&& 31)) &&& 255))))] rfl dX7_add_40 (fun H locs hP hD hS => ?_)
  refine lv_iinc (v := 16) (lv' := [(2, .int 16), (0, .ref h0), (1, .int v)]) hx hb dX7_add_43 hl (k := 0) rfl (by decide) (by decide) rfl (fun ls hl => ?_)
  refine lv_goto (tgt := 3) hx hb dX7_add_46 (by decide) ?_
  refine lv_iload_n hx hb dX7_add_3 rfl (lv_at hl 0 rfl) ?_
  refine lv_if_lt (tgt := 49) hx hb dX7_add_4 (by decide) (fun c_4_1 => absurd c_4_1 (by decide)) (fun c_4_1 => ?_)
  refine lv_aload_n hx hb dX7_add_7 rfl (lv_at hl 1 rfl) ?_
  refine k_get (C := RX7) (T := TX7) (N := 9) (ci := 7) (v := .int 17) X hE hP 0 rfl rfl iX7 1 (by decide) w_144 rfl dX7_add_8 ?_
  refine lv_sipush (v := 6000) hx hb dX7_add_11 (by decide) ?_
  refine lv_icmp_ge (tgt := 49) hx hb dX7_add_14 (by decide) (fun c_14_2 => absurd c_14_2 (by decide)) (fun c_14_2 => ?_)
  refine lv_aload_n hx hb dX7_add_17 rfl (lv_at hl 1 rfl) ?_
  refine k_get (C := RX7) (T := TX7) (N := 9) (ci := 7) (v := .ref htb) X hE hP 0 rfl rfl iX7 0 (by decide) w_11 rfl dX7_add_18 ?_
  refine lv_aload_n hx hb dX7_add_21 rfl (lv_at hl 1 rfl) ?_
  refine k_get (C := RX7) (T := TX7) (N := 9) (ci := 7) (v := .int 17) X hE hP 0 rfl rfl iX7 1 (by decide) w_144 rfl dX7_add_22 ?_
  refine lv_iload_n hx hb dX7_add_25 rfl (lv_at hl 2 rfl) ?_
  refine lv_iload_n hx hb dX7_add_26 rfl (lv_at hl 0 rfl) ?_
  refine lv_ishr hx hb dX7_add_27 ?_
  refine lv_sipush (v := 255) hx hb dX7_add_28 (by decide) ?_
  refine lv_iand hx hb dX7_add_31 ?_
  refine k_ast X hE hP hD hS 1 rfl 17 rfl (by decide) (by decide) [(h0, .inr (7, [.ref htb, .int 17, .int t0, .int t1, .int t2, .int t3, .int t4, .int t5, .int t6])), (htb, .inl (cA, 6000, .inl (upd (upd f 16 ((v >>> (24 &&& 31)) &&& 255)) 17 ((v >>> (16 &&& 31)) &&& 255))))] rfl dX7_add_32 (fun H locs hP hD hS => ?_)
  refine lv_aload_n hx hb dX7_add_33 rfl (lv_at hl 1 rfl) ?_
  refine lv_dup hx hb dX7_add_34 rfl ?_
  refine k_get (C := RX7) (T := TX7) (N := 9) (ci := 7) (v := .int 17) X hE hP 0 rfl rfl iX7 1 (by decide) w_144 rfl dX7_add_35 ?_
  refine lv_iconst (v := 1) hx hb dX7_add_38 (by decide) ?_
  refine lv_iadd hx hb dX7_add_39 ?_
  refine tk (y := 18) (by decide) ?_
  refine k_put (C := RX7) (T := TX7) (N := 9) (ci := 7) (v := .int 18) (ty := .int) X hE hP hD hS 0 rfl rfl iX7 tyX7 tyX7_ok nmX7 1 (by decide) w_144 rfl (by decide +kernel) rfl rfl (Nat.le_of_ble_eq_true rfl) [(h0, .inr (7, [.ref htb, .int 18, .int t0, .int t1, .int t2, .int t3, .int t4, .int t5, .int t6])), (htb, .inl (cA, 6000, .inl (upd (upd f 16 ((v >>> (24 &&& 31)) &&& 255)) 17 ((v >>> (16 &&& 31)) &&& 255))))] rfl dX7_add_40 (fun H locs hP hD hS => ?_)
  refine lv_iinc (v := 8) (lv' := [(2, .int 8), (0, .ref h0), (1, .int v)]) hx hb dX7_add_43 hl (k := 0) rfl (by decide) (by decide) rfl (fun ls hl => ?_)
  refine lv_goto (tgt := 3) hx hb dX7_add_46 (by decide) ?_
  refine lv_iload_n hx hb dX7_add_3 rfl (lv_at hl 0 rfl) ?_
  refine lv_if_lt (tgt := 49) hx hb dX7_add_4 (by decide) (fun c_4_3 => absurd c_4_3 (by decide)) (fun c_4_3 => ?_)
  refine lv_aload_n hx hb dX7_add_7 rfl (lv_at hl 1 rfl) ?_
  refine k_get (C := RX7) (T := TX7) (N := 9) (ci := 7) (v := .int 18) X hE hP 0 rfl rfl iX7 1 (by decide) w_144 rfl dX7_add_8 ?_
  refine lv_sipush (v := 6000) hx hb dX7_add_11 (by decide) ?_
  refine lv_icmp_ge (tgt := 49) hx hb dX7_add_14 (by decide) (fun c_14_4 => absurd c_14_4 (by decide)) (fun c_14_4 => ?_)
  refine lv_aload_n hx hb dX7_add_17 rfl (lv_at hl 1 rfl) ?_
  refine k_get (C := RX7) (T := TX7) (N := 9) (ci := 7) (v := .ref htb) X hE hP 0 rfl rfl iX7 0 (by decide) w_11 rfl dX7_add_18 ?_
  refine lv_aload_n hx hb dX7_add_21 rfl (lv_at hl 1 rfl) ?_
  refine k_get (C := RX7) (T := TX7) (N := 9) (ci := 7) (v := .int 18) X hE hP 0 rfl rfl iX7 1 (by decide) w_144 rfl dX7_add_22 ?_
  refine lv_iload_n hx hb dX7_add_25 rfl (lv_at hl 2 rfl) ?_
  refine lv_iload_n hx hb dX7_add_26 rfl (lv_at hl 0 rfl) ?_
  refine lv_ishr hx hb dX7_add_27 ?_
  refine lv_sipush (v := 255) hx hb dX7_add_28 (by decide) ?_
  refine lv_iand hx hb dX7_add_31 ?_
  refine k_ast X hE hP hD hS 1 rfl 18 rfl (by decide) (by decide) [(h0, .inr (7, [.ref htb, .int 18, .int t0, .int t1, .int t2, .int t3, .int t4, .int t5, .int t6])), (htb, .inl (cA, 6000, .inl (upd (upd (upd f 16 ((v >>> (24 &&& 31)) &&& 255)) 17 ((v >>> (16 &&& 31)) &&& 255)) 18 ((v >>> (8 &&& 31)) &&& 255))))] rfl dX7_add_32 (fun H locs hP hD hS => ?_)
  refine lv_aload_n hx hb dX7_add_33 rfl (lv_at hl 1 rfl) ?_
  refine lv_dup hx hb dX7_add_34 rfl ?_
  refine k_get (C := RX7) (T := TX7) (N := 9) (ci := 7) (v := .int 18) X hE hP 0 rfl rfl iX7 1 (by decide) w_144 rfl dX7_add_35 ?_
  refine lv_iconst (v := 1) hx hb dX7_add_38 (by decide) ?_
  refine lv_iadd hx hb dX7_add_39 ?_
  refine tk (y := 19) (by decide) ?_
  refine k_put (C := RX7) (T := TX7) (N := 9) (ci := 7) (v := .int 19) (ty := .int) X hE hP hD hS 0 rfl rfl iX7 tyX7 tyX7_ok nmX7 1 (by decide) w_144 rfl (by decide +kernel) rfl rfl (Nat.le_of_ble_eq_true rfl) [(h0, .inr (7, [.ref htb, .int 19, .int t0, .int t1, .int t2, .int t3, .int t4, .int t5, .int t6])), (htb, .inl (cA, 6000, .inl (upd (upd (upd f 16 ((v >>> (24 &&& 31)) &&& 255)) 17 ((v >>> (16 &&& 31)) &&& 255)) 18 ((v >>> (8 &&& 31)) &&& 255))))] rfl dX7_add_40 (fun H locs hP hD hS => ?_)
  refine lv_iinc (v := 0) (lv' := [(2, .int 0), (0, .ref h0), (1, .int v)]) hx hb dX7_add_43 hl (k := 0) rfl (by decide) (by decide) rfl (fun ls hl => ?_)
  refine lv_goto (tgt := 3) hx hb dX7_add_46 (by decide) ?_
  refine lv_iload_n hx hb dX7_add_3 rfl (lv_at hl 0 rfl) ?_
  refine lv_if_lt (tgt := 49) hx hb dX7_add_4 (by decide) (fun c_4_5 => absurd c_4_5 (by decide)) (fun c_4_5 => ?_)
  refine lv_aload_n hx hb dX7_add_7 rfl (lv_at hl 1 rfl) ?_
  refine k_get (C := RX7) (T := TX7) (N := 9) (ci := 7) (v := .int 19) X hE hP 0 rfl rfl iX7 1 (by decide) w_144 rfl dX7_add_8 ?_
  refine lv_sipush (v := 6000) hx hb dX7_add_11 (by decide) ?_
  refine lv_icmp_ge (tgt := 49) hx hb dX7_add_14 (by decide) (fun c_14_6 => absurd c_14_6 (by decide)) (fun c_14_6 => ?_)
  refine lv_aload_n hx hb dX7_add_17 rfl (lv_at hl 1 rfl) ?_
  refine k_get (C := RX7) (T := TX7) (N := 9) (ci := 7) (v := .ref htb) X hE hP 0 rfl rfl iX7 0 (by decide) w_11 rfl dX7_add_18 ?_
  refine lv_aload_n hx hb dX7_add_21 rfl (lv_at hl 1 rfl) ?_
  refine k_get (C := RX7) (T := TX7) (N := 9) (ci := 7) (v := .int 19) X hE hP 0 rfl rfl iX7 1 (by decide) w_144 rfl dX7_add_22 ?_
  refine lv_iload_n hx hb dX7_add_25 rfl (lv_at hl 2 rfl) ?_
  refine lv_iload_n hx hb dX7_add_26 rfl (lv_at hl 0 rfl) ?_
  refine lv_ishr hx hb dX7_add_27 ?_
  refine lv_sipush (v := 255) hx hb dX7_add_28 (by decide) ?_
  refine lv_iand hx hb dX7_add_31 ?_
  refine k_ast X hE hP hD hS 1 rfl 19 rfl (by decide) (by decide) [(h0, .inr (7, [.ref htb, .int 19, .int t0, .int t1, .int t2, .int t3, .int t4, .int t5, .int t6])), (htb, .inl (cA, 6000, .inl (upd (upd (upd (upd f 16 ((v >>> (24 &&& 31)) &&& 255)) 17 ((v >>> (16 &&& 31)) &&& 255)) 18 ((v >>> (8 &&& 31)) &&& 255)) 19 ((v >>> (0 &&& 31)) &&& 255))))] rfl dX7_add_32 (fun H locs hP hD hS => ?_)
  refine lv_aload_n hx hb dX7_add_33 rfl (lv_at hl 1 rfl) ?_
  refine lv_dup hx hb dX7_add_34 rfl ?_
  refine k_get (C := RX7) (T := TX7) (N := 9) (ci := 7) (v := .int 19) X hE hP 0 rfl rfl iX7 1 (by decide) w_144 rfl dX7_add_35 ?_
  refine lv_iconst (v := 1) hx hb dX7_add_38 (by decide) ?_
  refine lv_iadd hx hb dX7_add_39 ?_
  refine tk (y := 20) (by decide) ?_
  refine k_put (C := RX7) (T := TX7) (N := 9) (ci := 7) (v := .int 20) (ty := .int) X hE hP hD hS 0 rfl rfl iX7 tyX7 tyX7_ok nmX7 1 (by decide) w_144 rfl (by decide +kernel) rfl rfl (Nat.le_of_ble_eq_true rfl) [(h0, .inr (7, [.ref htb, .int 20, .int t0, .int t1, .int t2, .int t3, .int t4, .int t5, .int t6])), (htb, .inl (cA, 6000, .inl (upd (upd (upd (upd f 16 ((v >>> (24 &&& 31)) &&& 255)) 17 ((v >>> (16 &&& 31)) &&& 255)) 18 ((v >>> (8 &&& 31)) &&& 255)) 19 ((v >>> (0 &&& 31)) &&& 255))))] rfl dX7_add_40 (fun H locs hP hD hS => ?_)
  refine lv_iinc (v := (-8)) (lv' := [(2, .int (-8)), (0, .ref h0), (1, .int v)]) hx hb dX7_add_43 hl (k := 0) rfl (by decide) (by decide) rfl (fun ls hl => ?_)
  refine lv_goto (tgt := 3) hx hb dX7_add_46 (by decide) ?_
  refine lv_iload_n hx hb dX7_add_3 rfl (lv_at hl 0 rfl) ?_
  refine lv_if_lt (tgt := 49) hx hb dX7_add_4 (by decide) (fun c_4_7 => ?_) (fun c_4_7 => absurd (by decide) c_4_7)
  exact endV X hr hlocks hP hD hS dX7_add_49 ⟨(upd (upd (upd (upd f 16 ((v >>> (24 &&& 31)) &&& 255)) 17 ((v >>> (16 &&& 31)) &&& 255)) 18 ((v >>> (8 &&& 31)) &&& 255)) 19 ((v >>> (0 &&& 31)) &&& 255)), rfl⟩
set_option maxHeartbeats 4000000 in
set_option maxRecDepth 100000 in
theorem c_feed (l : Launch) (D : va_G) (cA cB : ClassId) (h0 : Nat) (qn : Nat) (qs : Nat) (qd : Nat) (qp : Nat) (qr : Nat) (qt : Nat) (qa : Nat) (qm : Nat) (qe : Nat) (qab : Nat) (v1 : Int32) (v2 : Int32) (v3 : Int32) (v4 : Int32) (v5 : Int32)  : CI l yX8_feed cX8_feed 6 (some .int) 1 22 0 0 D cA cB [.ref h0, .int v1, .int v2, .int v3, .int v4, .int v5] [(h0, .inr (8, [.ref qn, .ref qs, .ref qd, .ref qp, .ref qr, .ref qt, .ref qa, .ref qm, .ref qe])), (qa, .inr (7, [.ref qab, .int 0, .int 0, .int 0, .int 0, .int 0, .int 0, .int 0, .int 0])), (qab, .inl (cA, 6000, .inl (fun _ => 0)))] (fun r W1 => r = 20) := by
  refine mkI (lv0 := [(0, .ref h0), (1, .int v1), (2, .int v2), (3, .int v3), (4, .int v4), (5, .int v5)]) (by decide) (Nat.le_of_ble_eq_true rfl) rfl ?_
  intro p e s m below meth c A ls X hr hlocks hnm hE hA hP hD hS hl
  have hx := X.1
  have hb := X.2.1
  refine lv_aload_n hx hb dX8_feed_0 rfl (lv_at hl 0 rfl) ?_
  refine k_get (C := RX8) (T := TX8) (N := 9) (ci := 8) (v := .ref qa) X hE hP 0 rfl rfl iX8 6 (by decide) w_96 rfl dX8_feed_1 ?_
  refine lv_bipush (v := 20) hx hb dX8_feed_4 (by decide) ?_
  refine kVi (n3 := 1) (As := [.int 20]) (rest := []) X hl.1 hE hP hD hS hA [(qa, .inr (7, [.ref qab, .int 0, .int 0, .int 0, .int 0, .int 0, .int 0, .int 0, .int 0]))] [(h0, .inr (8, [.ref qn, .ref qs, .ref qd, .ref qp, .ref qr, .ref qt, .ref qa, .ref qm, .ref qe])), (qab, .inl (cA, 6000, .inl (fun _ => 0)))] [1] [0, 2] rfl rfl rfl (by decide) (by decide) (by decide) (c_hasRoom0 l D cA cB qa qab 0 0 0 0 0 0 0 ) w_146 w_93 w_145 w_147 w_148 0 (ci := 7) (T := TX7) (N := 9) rfl rfl (by decide +kernel) rfl rfl (Nat.le_of_ble_eq_true rfl) ⟨(Nat.le_of_ble_eq_true rfl), (Nat.le_of_ble_eq_true rfl)⟩ ⟨(Nat.le_of_ble_eq_true rfl), (Nat.le_of_ble_eq_true rfl)⟩ dX8_feed_6 (fun r W1 H locs hw hP hD hS => ?_)
  obtain ⟨rfl, rfl⟩ := hw
  have hP : va_P D classes [(h0, .inr (8, [.ref qn, .ref qs, .ref qd, .ref qp, .ref qr, .ref qt, .ref qa, .ref qm, .ref qe])), (qab, .inl (cA, 6000, .inl (fun _ => 0))), (qa, .inr (7, [.ref qab, .int 0, .int 0, .int 0, .int 0, .int 0, .int 0, .int 0, .int 0]))] H := hP
  have hD : va_D A [(h0, .inr (8, [.ref qn, .ref qs, .ref qd, .ref qp, .ref qr, .ref qt, .ref qa, .ref qm, .ref qe])), (qab, .inl (cA, 6000, .inl (fun _ => 0))), (qa, .inr (7, [.ref qab, .int 0, .int 0, .int 0, .int 0, .int 0, .int 0, .int 0, .int 0]))] := hD
  refine lv_if_ne (tgt := 14) hx hb dX8_feed_9 (by decide) (fun c_9 => ?_) (fun c_9 => absurd c_9 (by decide))
  refine lv_aload_n hx hb dX8_feed_14 rfl (lv_at hl 0 rfl) ?_
  refine k_get (C := RX8) (T := TX8) (N := 9) (ci := 8) (v := .ref qa) X hE hP 0 rfl rfl iX8 6 (by decide) w_96 rfl dX8_feed_15 ?_
  refine lv_iload_n hx hb dX8_feed_18 rfl (lv_at hl 1 rfl) ?_
  refine kVv (n3 := 1) (As := [.int v1]) (rest := []) X hl.1 hE hP hD hS hA [(qa, .inr (7, [.ref qab, .int 0, .int 0, .int 0, .int 0, .int 0, .int 0, .int 0, .int 0])), (qab, .inl (cA, 6000, .inl (fun _ => 0)))] [(h0, .inr (8, [.ref qn, .ref qs, .ref qd, .ref qp, .ref qr, .ref qt, .ref qa, .ref qm, .ref qe]))] [2, 1] [0] rfl rfl rfl (by decide) (by decide) (by decide) (c_add0 l D cA cB qa qab 0 0 0 0 0 0 0 (fun _ => 0) v1 ) w_150 w_93 w_149 w_151 w_152 0 (ci := 7) (T := TX7) (N := 9) rfl rfl (by decide +kernel) rfl rfl (Nat.le_of_ble_eq_true rfl) ⟨(Nat.le_of_ble_eq_true rfl), (Nat.le_of_ble_eq_true rfl)⟩ ⟨(Nat.le_of_ble_eq_true rfl), (Nat.le_of_ble_eq_true rfl)⟩ dX8_feed_19 (fun W1 H locs hw hP hD hS => ?_)
  obtain ⟨g_1, rfl⟩ := hw
  have hP : va_P D classes [(h0, .inr (8, [.ref qn, .ref qs, .ref qd, .ref qp, .ref qr, .ref qt, .ref qa, .ref qm, .ref qe])), (qa, .inr (7, [.ref qab, .int 4, .int 0, .int 0, .int 0, .int 0, .int 0, .int 0, .int 0])), (qab, .inl (cA, 6000, .inl g_1))] H := hP
  have hD : va_D A [(h0, .inr (8, [.ref qn, .ref qs, .ref qd, .ref qp, .ref qr, .ref qt, .ref qa, .ref qm, .ref qe])), (qa, .inr (7, [.ref qab, .int 4, .int 0, .int 0, .int 0, .int 0, .int 0, .int 0, .int 0])), (qab, .inl (cA, 6000, .inl g_1))] := hD
  refine lv_aload_n hx hb dX8_feed_22 rfl (lv_at hl 0 rfl) ?_
  refine k_get (C := RX8) (T := TX8) (N := 9) (ci := 8) (v := .ref qa) X hE hP 0 rfl rfl iX8 6 (by decide) w_96 rfl dX8_feed_23 ?_
  refine lv_iload_n hx hb dX8_feed_26 rfl (lv_at hl 2 rfl) ?_
  refine kVv (n3 := 1) (As := [.int v2]) (rest := []) X hl.1 hE hP hD hS hA [(qa, .inr (7, [.ref qab, .int 4, .int 0, .int 0, .int 0, .int 0, .int 0, .int 0, .int 0])), (qab, .inl (cA, 6000, .inl g_1))] [(h0, .inr (8, [.ref qn, .ref qs, .ref qd, .ref qp, .ref qr, .ref qt, .ref qa, .ref qm, .ref qe]))] [1, 2] [0] rfl rfl rfl (by decide) (by decide) (by decide) (c_add4 l D cA cB qa qab 0 0 0 0 0 0 0 g_1 v2 ) w_150 w_93 w_149 w_151 w_152 0 (ci := 7) (T := TX7) (N := 9) rfl rfl (by decide +kernel) rfl rfl (Nat.le_of_ble_eq_true rfl) ⟨(Nat.le_of_ble_eq_true rfl), (Nat.le_of_ble_eq_true rfl)⟩ ⟨(Nat.le_of_ble_eq_true rfl), (Nat.le_of_ble_eq_true rfl)⟩ dX8_feed_27 (fun W1 H locs hw hP hD hS => ?_)
  obtain ⟨g_2, rfl⟩ := hw
  have hP : va_P D classes [(h0, .inr (8, [.ref qn, .ref qs, .ref qd, .ref qp, .ref qr, .ref qt, .ref qa, .ref qm, .ref qe])), (qa, .inr (7, [.ref qab, .int 8, .int 0, .int 0, .int 0, .int 0, .int 0, .int 0, .int 0])), (qab, .inl (cA, 6000, .inl g_2))] H := hP
  have hD : va_D A [(h0, .inr (8, [.ref qn, .ref qs, .ref qd, .ref qp, .ref qr, .ref qt, .ref qa, .ref qm, .ref qe])), (qa, .inr (7, [.ref qab, .int 8, .int 0, .int 0, .int 0, .int 0, .int 0, .int 0, .int 0])), (qab, .inl (cA, 6000, .inl g_2))] := hD
  refine lv_aload_n hx hb dX8_feed_30 rfl (lv_at hl 0 rfl) ?_
  refine k_get (C := RX8) (T := TX8) (N := 9) (ci := 8) (v := .ref qa) X hE hP 0 rfl rfl iX8 6 (by decide) w_96 rfl dX8_feed_31 ?_
  refine lv_iload_n hx hb dX8_feed_34 rfl (lv_at hl 3 rfl) ?_
  refine kVv (n3 := 1) (As := [.int v3]) (rest := []) X hl.1 hE hP hD hS hA [(qa, .inr (7, [.ref qab, .int 8, .int 0, .int 0, .int 0, .int 0, .int 0, .int 0, .int 0])), (qab, .inl (cA, 6000, .inl g_2))] [(h0, .inr (8, [.ref qn, .ref qs, .ref qd, .ref qp, .ref qr, .ref qt, .ref qa, .ref qm, .ref qe]))] [1, 2] [0] rfl rfl rfl (by decide) (by decide) (by decide) (c_add8 l D cA cB qa qab 0 0 0 0 0 0 0 g_2 v3 ) w_150 w_93 w_149 w_151 w_152 0 (ci := 7) (T := TX7) (N := 9) rfl rfl (by decide +kernel) rfl rfl (Nat.le_of_ble_eq_true rfl) ⟨(Nat.le_of_ble_eq_true rfl), (Nat.le_of_ble_eq_true rfl)⟩ ⟨(Nat.le_of_ble_eq_true rfl), (Nat.le_of_ble_eq_true rfl)⟩ dX8_feed_35 (fun W1 H locs hw hP hD hS => ?_)
  obtain ⟨g_3, rfl⟩ := hw
  have hP : va_P D classes [(h0, .inr (8, [.ref qn, .ref qs, .ref qd, .ref qp, .ref qr, .ref qt, .ref qa, .ref qm, .ref qe])), (qa, .inr (7, [.ref qab, .int 12, .int 0, .int 0, .int 0, .int 0, .int 0, .int 0, .int 0])), (qab, .inl (cA, 6000, .inl g_3))] H := hP
  have hD : va_D A [(h0, .inr (8, [.ref qn, .ref qs, .ref qd, .ref qp, .ref qr, .ref qt, .ref qa, .ref qm, .ref qe])), (qa, .inr (7, [.ref qab, .int 12, .int 0, .int 0, .int 0, .int 0, .int 0, .int 0, .int 0])), (qab, .inl (cA, 6000, .inl g_3))] := hD
  refine lv_aload_n hx hb dX8_feed_38 rfl (lv_at hl 0 rfl) ?_
  refine k_get (C := RX8) (T := TX8) (N := 9) (ci := 8) (v := .ref qa) X hE hP 0 rfl rfl iX8 6 (by decide) w_96 rfl dX8_feed_39 ?_
  refine lv_iload hx hb dX8_feed_42 (lv_at hl 4 rfl) ?_
  refine kVv (n3 := 1) (As := [.int v4]) (rest := []) X hl.1 hE hP hD hS hA [(qa, .inr (7, [.ref qab, .int 12, .int 0, .int 0, .int 0, .int 0, .int 0, .int 0, .int 0])), (qab, .inl (cA, 6000, .inl g_3))] [(h0, .inr (8, [.ref qn, .ref qs, .ref qd, .ref qp, .ref qr, .ref qt, .ref qa, .ref qm, .ref qe]))] [1, 2] [0] rfl rfl rfl (by decide) (by decide) (by decide) (c_add12 l D cA cB qa qab 0 0 0 0 0 0 0 g_3 v4 ) w_150 w_93 w_149 w_151 w_152 0 (ci := 7) (T := TX7) (N := 9) rfl rfl (by decide +kernel) rfl rfl (Nat.le_of_ble_eq_true rfl) ⟨(Nat.le_of_ble_eq_true rfl), (Nat.le_of_ble_eq_true rfl)⟩ ⟨(Nat.le_of_ble_eq_true rfl), (Nat.le_of_ble_eq_true rfl)⟩ dX8_feed_44 (fun W1 H locs hw hP hD hS => ?_)
  obtain ⟨g_4, rfl⟩ := hw
  have hP : va_P D classes [(h0, .inr (8, [.ref qn, .ref qs, .ref qd, .ref qp, .ref qr, .ref qt, .ref qa, .ref qm, .ref qe])), (qa, .inr (7, [.ref qab, .int 16, .int 0, .int 0, .int 0, .int 0, .int 0, .int 0, .int 0])), (qab, .inl (cA, 6000, .inl g_4))] H := hP
  have hD : va_D A [(h0, .inr (8, [.ref qn, .ref qs, .ref qd, .ref qp, .ref qr, .ref qt, .ref qa, .ref qm, .ref qe])), (qa, .inr (7, [.ref qab, .int 16, .int 0, .int 0, .int 0, .int 0, .int 0, .int 0, .int 0])), (qab, .inl (cA, 6000, .inl g_4))] := hD
  refine lv_aload_n hx hb dX8_feed_47 rfl (lv_at hl 0 rfl) ?_
  refine k_get (C := RX8) (T := TX8) (N := 9) (ci := 8) (v := .ref qa) X hE hP 0 rfl rfl iX8 6 (by decide) w_96 rfl dX8_feed_48 ?_
  refine lv_iload hx hb dX8_feed_51 (lv_at hl 5 rfl) ?_
  refine kVv (n3 := 1) (As := [.int v5]) (rest := []) X hl.1 hE hP hD hS hA [(qa, .inr (7, [.ref qab, .int 16, .int 0, .int 0, .int 0, .int 0, .int 0, .int 0, .int 0])), (qab, .inl (cA, 6000, .inl g_4))] [(h0, .inr (8, [.ref qn, .ref qs, .ref qd, .ref qp, .ref qr, .ref qt, .ref qa, .ref qm, .ref qe]))] [1, 2] [0] rfl rfl rfl (by decide) (by decide) (by decide) (c_add16 l D cA cB qa qab 0 0 0 0 0 0 0 g_4 v5 ) w_150 w_93 w_149 w_151 w_152 0 (ci := 7) (T := TX7) (N := 9) rfl rfl (by decide +kernel) rfl rfl (Nat.le_of_ble_eq_true rfl) ⟨(Nat.le_of_ble_eq_true rfl), (Nat.le_of_ble_eq_true rfl)⟩ ⟨(Nat.le_of_ble_eq_true rfl), (Nat.le_of_ble_eq_true rfl)⟩ dX8_feed_53 (fun W1 H locs hw hP hD hS => ?_)
  obtain ⟨g_5, rfl⟩ := hw
  have hP : va_P D classes [(h0, .inr (8, [.ref qn, .ref qs, .ref qd, .ref qp, .ref qr, .ref qt, .ref qa, .ref qm, .ref qe])), (qa, .inr (7, [.ref qab, .int 20, .int 0, .int 0, .int 0, .int 0, .int 0, .int 0, .int 0])), (qab, .inl (cA, 6000, .inl g_5))] H := hP
  have hD : va_D A [(h0, .inr (8, [.ref qn, .ref qs, .ref qd, .ref qp, .ref qr, .ref qt, .ref qa, .ref qm, .ref qe])), (qa, .inr (7, [.ref qab, .int 20, .int 0, .int 0, .int 0, .int 0, .int 0, .int 0, .int 0])), (qab, .inl (cA, 6000, .inl g_5))] := hD
  refine lv_aload_n hx hb dX8_feed_56 rfl (lv_at hl 0 rfl) ?_
  refine k_get (C := RX8) (T := TX8) (N := 9) (ci := 8) (v := .ref qa) X hE hP 0 rfl rfl iX8 6 (by decide) w_96 rfl dX8_feed_57 ?_
  refine k_getN (C := RX7) (T := TX7) (N := 9) (ci := 7) (v := .int 20) X hE hP 1 rfl rfl iX7 1 (by decide) nw_12 rfl dX8_feed_60 ?_
  exact endI X hr hlocks hP hD hS dX8_feed_63 rfl
set_option maxHeartbeats 4000000 in
set_option maxRecDepth 100000 in
theorem c_pinsOfRow0 (l : Launch) (D : va_G) (cA cB : ClassId) (h0 : Nat) (hn : Nat) (h1 : Nat) (h2 : Nat) (h3 : Nat) (h4 : Nat) (f : Nat → Int32) (g : Nat → Int32) (k14 : f 14 = 0) (k0 : g 0 = 0) : CI l yX1_pinsOfRow cX1_pinsOfRow 1 (some .int) 0 0 0 0 D cA cB [.ref h0] [(h0, .inr (1, [.ref hn, .ref h1, .ref h2, .ref h3, .ref h4])), (hn, .inl (cA, 34, .inl f)), (h1, .inl (cA, 64, .inl g))] (fun r W1 => r = 0 ∧ W1 = [(h0, .inr (1, [.ref hn, .ref h1, .ref h2, .ref h3, .ref h4])), (hn, .inl (cA, 34, .inl f)), (h1, .inl (cA, 64, .inl g))]) := by
  refine mkI (lv0 := [(0, .ref h0)]) (by decide) (Nat.le_of_ble_eq_true rfl) rfl ?_
  intro p e s m below meth c A ls X hr hlocks hnm hE hA hP hD hS hl
  have hx := X.1
  have hb := X.2.1
  refine lv_aload_n hx hb dX1_pinsOfRow_0 rfl (lv_at hl 0 rfl) ?_
  refine k_get (C := RX1) (T := TX1) (N := 5) (ci := 1) (v := .ref h1) X hE hP 0 rfl rfl iX1 1 (by decide) w_18 rfl dX1_pinsOfRow_1 ?_
  refine lv_aload_n hx hb dX1_pinsOfRow_4 rfl (lv_at hl 0 rfl) ?_
  refine k_get (C := RX1) (T := TX1) (N := 5) (ci := 1) (v := .ref hn) X hE hP 0 rfl rfl iX1 0 (by decide) w_22 rfl dX1_pinsOfRow_5 ?_
  refine lv_bipush (v := 14) hx hb dX1_pinsOfRow_8 (by decide) ?_
  refine k_ald (v := 0) X hE hP 1 rfl 14 rfl (by decide) (by decide) k14 dX1_pinsOfRow_10 ?_
  refine lv_bipush (v := 64) hx hb dX1_pinsOfRow_11 (by decide) ?_
  refine lv_irem hx hb dX1_pinsOfRow_13 (by decide) ?_
  refine tk (y := 0) (by decide) ?_
  refine k_ald (v := 0) X hE hP 2 rfl 0 rfl (by decide) (by decide) k0 dX1_pinsOfRow_14 ?_
  exact endI X hr hlocks hP hD hS dX1_pinsOfRow_15 ⟨rfl, rfl⟩
set_option maxHeartbeats 4000000 in
set_option maxRecDepth 100000 in
theorem c_keyAt0 (l : Launch) (D : va_G) (cA cB : ClassId) (h0 : Nat) (hn : Nat) (h1 : Nat) (h2 : Nat) (h3 : Nat) (h4 : Nat) (f : Nat → Int32) (i : Int32) (k19 : f 19 = 0) (hi : 0 ≤ i) : CI l yX1_keyAt cX1_keyAt 2 (some .int) 0 0 0 0 D cA cB [.ref h0, .int i] [(h0, .inr (1, [.ref hn, .ref h1, .ref h2, .ref h3, .ref h4])), (hn, .inl (cA, 34, .inl f))] (fun r W1 => r = 0 ∧ W1 = [(h0, .inr (1, [.ref hn, .ref h1, .ref h2, .ref h3, .ref h4])), (hn, .inl (cA, 34, .inl f))]) := by
  refine mkI (lv0 := [(0, .ref h0), (1, .int i)]) (by decide) (Nat.le_of_ble_eq_true rfl) rfl ?_
  intro p e s m below meth c A ls X hr hlocks hnm hE hA hP hD hS hl
  have hx := X.1
  have hb := X.2.1
  refine lv_iload_n hx hb dX1_keyAt_0 rfl (lv_at hl 1 rfl) ?_
  refine lv_aload_n hx hb dX1_keyAt_1 rfl (lv_at hl 0 rfl) ?_
  refine k_get (C := RX1) (T := TX1) (N := 5) (ci := 1) (v := .ref hn) X hE hP 0 rfl rfl iX1 0 (by decide) w_22 rfl dX1_keyAt_2 ?_
  refine lv_bipush (v := 19) hx hb dX1_keyAt_5 (by decide) ?_
  refine k_ald (v := 0) X hE hP 1 rfl 19 rfl (by decide) (by decide) k19 dX1_keyAt_7 ?_
  refine lv_icmp_ge (tgt := 31) hx hb dX1_keyAt_8 (by decide) (fun c_8 => ?_) (fun c_8 => absurd hi c_8)
  refine lv_iconst (v := 0) hx hb dX1_keyAt_31 (by decide) ?_
  exact endI X hr hlocks hP hD hS dX1_keyAt_32 ⟨rfl, rfl⟩
set_option maxHeartbeats 4000000 in
set_option maxRecDepth 100000 in
theorem c_device (l : Launch) (D : va_G) (cA cB : ClassId) (h0 : Nat) (qn : Nat) (qs : Nat) (qd : Nat) (qp : Nat) (qr : Nat) (qt : Nat) (qa : Nat) (qm : Nat) (qe : Nat) (f : Nat → Int32) (qd1 : Nat) (qd2 : Nat) (qd3 : Nat) (qd4 : Nat) (a : Int32) (hfr : frn f) : CI l yX8_device cX8_device 2 (some .int) 1 21 0 0 D cA cB [.ref h0, .int a] [(h0, .inr (8, [.ref qn, .ref qs, .ref qd, .ref qp, .ref qr, .ref qt, .ref qa, .ref qm, .ref qe])), (qn, .inl (cA, 34, .inl f)), (qd, .inr (1, [.ref qn, .ref qd1, .ref qd2, .ref qd3, .ref qd4])), (qd1, .inl (cA, 64, .inl (fun _ => 0)))] (fun r W1 => r = (sp_device a)) := by
  refine mkI (lv0 := [(0, .ref h0), (1, .int a)]) (by decide) (Nat.le_of_ble_eq_true rfl) rfl ?_
  intro p e s m below meth c A ls X hr hlocks hnm hE hA hP hD hS hl
  have hx := X.1
  have hb := X.2.1
  refine lv_iload_n hx hb dX8_device_0 rfl (lv_at hl 1 rfl) ?_
  refine lv_if_lt (tgt := 20) hx hb dX8_device_1 (by decide) (fun c_1 => ?_) (fun c_1 => ?_)
  · skip
    refine lv_iload_n hx hb dX8_device_20 rfl (lv_at hl 1 rfl) ?_
    refine lv_bipush (v := 20) hx hb dX8_device_21 (by decide) ?_
    refine lv_icmp_ne (tgt := 34) hx hb dX8_device_23 (by decide) (fun c_23 => ?_) (fun c_23 => ?_)
    · skip
      refine lv_iload_n hx hb dX8_device_34 rfl (lv_at hl 1 rfl) ?_
      refine lv_bipush (v := 21) hx hb dX8_device_35 (by decide) ?_
      refine lv_icmp_lt (tgt := 60) hx hb dX8_device_37 (by decide) (fun c_37 => ?_) (fun c_37 => ?_)
      · skip
        refine lv_iconst (v := 0) hx hb dX8_device_60 (by decide) ?_
        exact endI X hr hlocks hP hD hS dX8_device_61 (by unfold sp_device; rw [if_pos c_1])
      · skip
        refine lv_iload_n hx hb dX8_device_40 rfl (lv_at hl 1 rfl) ?_
        refine lv_bipush (v := 37) hx hb dX8_device_41 (by decide) ?_
        refine lv_icmp_ge (tgt := 60) hx hb dX8_device_43 (by decide) (fun c_43 => ?_) (fun c_43 => ?_)
        · skip
          refine lv_iconst (v := 0) hx hb dX8_device_60 (by decide) ?_
          exact endI X hr hlocks hP hD hS dX8_device_61 (by unfold sp_device; rw [if_pos c_1])
        · skip
          refine lv_aload_n hx hb dX8_device_46 rfl (lv_at hl 0 rfl) ?_
          refine k_get (C := RX8) (T := TX8) (N := 9) (ci := 8) (v := .ref qd) X hE hP 0 rfl rfl iX8 2 (by decide) w_73 rfl dX8_device_47 ?_
          refine lv_iload_n hx hb dX8_device_50 rfl (lv_at hl 1 rfl) ?_
          refine lv_bipush (v := 21) hx hb dX8_device_51 (by decide) ?_
          refine lv_isub hx hb dX8_device_53 ?_
          refine kVi (n3 := 1) (As := [.int (a - 21)]) (rest := []) X hl.1 hE hP hD hS hA [(qd, .inr (1, [.ref qn, .ref qd1, .ref qd2, .ref qd3, .ref qd4])), (qn, .inl (cA, 34, .inl f))] [(h0, .inr (8, [.ref qn, .ref qs, .ref qd, .ref qp, .ref qr, .ref qt, .ref qa, .ref qm, .ref qe])), (qd1, .inl (cA, 64, .inl (fun _ => 0)))] [2, 1] [0, 3] rfl rfl rfl (by decide) (by decide) (by decide) (c_keyAt0 l D cA cB qd qn qd1 qd2 qd3 qd4 f (a - 21) (hfr 19 (by decide)) (idx_21 c_37)) w_154 w_69 w_153 w_155 w_156 0 (ci := 1) (T := TX1) (N := 5) rfl rfl (by decide +kernel) rfl rfl (Nat.le_of_ble_eq_true rfl) ⟨(Nat.le_of_ble_eq_true rfl), (Nat.le_of_ble_eq_true rfl)⟩ ⟨(Nat.le_of_ble_eq_true rfl), (Nat.le_of_ble_eq_true rfl)⟩ dX8_device_54 (fun r W1 H locs hw hP hD hS => ?_)
          obtain ⟨rfl, rfl⟩ := hw
          have hP : va_P D classes [(h0, .inr (8, [.ref qn, .ref qs, .ref qd, .ref qp, .ref qr, .ref qt, .ref qa, .ref qm, .ref qe])), (qd1, .inl (cA, 64, .inl (fun _ => 0))), (qd, .inr (1, [.ref qn, .ref qd1, .ref qd2, .ref qd3, .ref qd4])), (qn, .inl (cA, 34, .inl f))] H := hP
          have hD : va_D A [(h0, .inr (8, [.ref qn, .ref qs, .ref qd, .ref qp, .ref qr, .ref qt, .ref qa, .ref qm, .ref qe])), (qd1, .inl (cA, 64, .inl (fun _ => 0))), (qd, .inr (1, [.ref qn, .ref qd1, .ref qd2, .ref qd3, .ref qd4])), (qn, .inl (cA, 34, .inl f))] := hD
          refine lv_goto (tgt := 61) hx hb dX8_device_57 (by decide) ?_
          exact endI X hr hlocks hP hD hS dX8_device_61 (by unfold sp_device; rw [if_pos c_1])
    · skip
      refine lv_aload_n hx hb dX8_device_26 rfl (lv_at hl 0 rfl) ?_
      refine k_get (C := RX8) (T := TX8) (N := 9) (ci := 8) (v := .ref qd) X hE hP 0 rfl rfl iX8 2 (by decide) w_73 rfl dX8_device_27 ?_
      refine kVi (n3 := 0) (As := []) (rest := []) X hl.1 hE hP hD hS hA [(qd, .inr (1, [.ref qn, .ref qd1, .ref qd2, .ref qd3, .ref qd4])), (qn, .inl (cA, 34, .inl f)), (qd1, .inl (cA, 64, .inl (fun _ => 0)))] [(h0, .inr (8, [.ref qn, .ref qs, .ref qd, .ref qp, .ref qr, .ref qt, .ref qa, .ref qm, .ref qe]))] [2, 1, 3] [0] rfl rfl rfl (by decide) (by decide) (by decide) (c_pinsOfRow0 l D cA cB qd qn qd1 qd2 qd3 qd4 f (fun _ => 0) (hfr 14 (by decide)) rfl) w_158 w_69 w_157 w_159 w_160 0 (ci := 1) (T := TX1) (N := 5) rfl rfl (by decide +kernel) rfl rfl (Nat.le_of_ble_eq_true rfl) ⟨(Nat.le_of_ble_eq_true rfl), (Nat.le_of_ble_eq_true rfl)⟩ ⟨(Nat.le_of_ble_eq_true rfl), (Nat.le_of_ble_eq_true rfl)⟩ dX8_device_30 (fun r W1 H locs hw hP hD hS => ?_)
      obtain ⟨rfl, rfl⟩ := hw
      have hP : va_P D classes [(h0, .inr (8, [.ref qn, .ref qs, .ref qd, .ref qp, .ref qr, .ref qt, .ref qa, .ref qm, .ref qe])), (qd, .inr (1, [.ref qn, .ref qd1, .ref qd2, .ref qd3, .ref qd4])), (qn, .inl (cA, 34, .inl f)), (qd1, .inl (cA, 64, .inl (fun _ => 0)))] H := hP
      have hD : va_D A [(h0, .inr (8, [.ref qn, .ref qs, .ref qd, .ref qp, .ref qr, .ref qt, .ref qa, .ref qm, .ref qe])), (qd, .inr (1, [.ref qn, .ref qd1, .ref qd2, .ref qd3, .ref qd4])), (qn, .inl (cA, 34, .inl f)), (qd1, .inl (cA, 64, .inl (fun _ => 0)))] := hD
      exact endI X hr hlocks hP hD hS dX8_device_33 (by unfold sp_device; rw [if_pos c_1])
  · skip
    refine lv_iload_n hx hb dX8_device_4 rfl (lv_at hl 1 rfl) ?_
    refine lv_bipush (v := 20) hx hb dX8_device_5 (by decide) ?_
    refine lv_icmp_ge (tgt := 20) hx hb dX8_device_7 (by decide) (fun c_7 => ?_) (fun c_7 => ?_)
    · skip
      refine lv_iload_n hx hb dX8_device_20 rfl (lv_at hl 1 rfl) ?_
      refine lv_bipush (v := 20) hx hb dX8_device_21 (by decide) ?_
      refine lv_icmp_ne (tgt := 34) hx hb dX8_device_23 (by decide) (fun c_23 => ?_) (fun c_23 => ?_)
      · skip
        refine lv_iload_n hx hb dX8_device_34 rfl (lv_at hl 1 rfl) ?_
        refine lv_bipush (v := 21) hx hb dX8_device_35 (by decide) ?_
        refine lv_icmp_lt (tgt := 60) hx hb dX8_device_37 (by decide) (fun c_37 => ?_) (fun c_37 => ?_)
        · skip
          refine lv_iconst (v := 0) hx hb dX8_device_60 (by decide) ?_
          exact endI X hr hlocks hP hD hS dX8_device_61 (by unfold sp_device; rw [if_neg c_1, if_pos c_7])
        · skip
          refine lv_iload_n hx hb dX8_device_40 rfl (lv_at hl 1 rfl) ?_
          refine lv_bipush (v := 37) hx hb dX8_device_41 (by decide) ?_
          refine lv_icmp_ge (tgt := 60) hx hb dX8_device_43 (by decide) (fun c_43 => ?_) (fun c_43 => ?_)
          · skip
            refine lv_iconst (v := 0) hx hb dX8_device_60 (by decide) ?_
            exact endI X hr hlocks hP hD hS dX8_device_61 (by unfold sp_device; rw [if_neg c_1, if_pos c_7])
          · skip
            refine lv_aload_n hx hb dX8_device_46 rfl (lv_at hl 0 rfl) ?_
            refine k_get (C := RX8) (T := TX8) (N := 9) (ci := 8) (v := .ref qd) X hE hP 0 rfl rfl iX8 2 (by decide) w_73 rfl dX8_device_47 ?_
            refine lv_iload_n hx hb dX8_device_50 rfl (lv_at hl 1 rfl) ?_
            refine lv_bipush (v := 21) hx hb dX8_device_51 (by decide) ?_
            refine lv_isub hx hb dX8_device_53 ?_
            refine kVi (n3 := 1) (As := [.int (a - 21)]) (rest := []) X hl.1 hE hP hD hS hA [(qd, .inr (1, [.ref qn, .ref qd1, .ref qd2, .ref qd3, .ref qd4])), (qn, .inl (cA, 34, .inl f))] [(h0, .inr (8, [.ref qn, .ref qs, .ref qd, .ref qp, .ref qr, .ref qt, .ref qa, .ref qm, .ref qe])), (qd1, .inl (cA, 64, .inl (fun _ => 0)))] [2, 1] [0, 3] rfl rfl rfl (by decide) (by decide) (by decide) (c_keyAt0 l D cA cB qd qn qd1 qd2 qd3 qd4 f (a - 21) (hfr 19 (by decide)) (idx_21 c_37)) w_154 w_69 w_153 w_155 w_156 0 (ci := 1) (T := TX1) (N := 5) rfl rfl (by decide +kernel) rfl rfl (Nat.le_of_ble_eq_true rfl) ⟨(Nat.le_of_ble_eq_true rfl), (Nat.le_of_ble_eq_true rfl)⟩ ⟨(Nat.le_of_ble_eq_true rfl), (Nat.le_of_ble_eq_true rfl)⟩ dX8_device_54 (fun r W1 H locs hw hP hD hS => ?_)
            obtain ⟨rfl, rfl⟩ := hw
            have hP : va_P D classes [(h0, .inr (8, [.ref qn, .ref qs, .ref qd, .ref qp, .ref qr, .ref qt, .ref qa, .ref qm, .ref qe])), (qd1, .inl (cA, 64, .inl (fun _ => 0))), (qd, .inr (1, [.ref qn, .ref qd1, .ref qd2, .ref qd3, .ref qd4])), (qn, .inl (cA, 34, .inl f))] H := hP
            have hD : va_D A [(h0, .inr (8, [.ref qn, .ref qs, .ref qd, .ref qp, .ref qr, .ref qt, .ref qa, .ref qm, .ref qe])), (qd1, .inl (cA, 64, .inl (fun _ => 0))), (qd, .inr (1, [.ref qn, .ref qd1, .ref qd2, .ref qd3, .ref qd4])), (qn, .inl (cA, 34, .inl f))] := hD
            refine lv_goto (tgt := 61) hx hb dX8_device_57 (by decide) ?_
            exact endI X hr hlocks hP hD hS dX8_device_61 (by unfold sp_device; rw [if_neg c_1, if_pos c_7])
      · skip
        refine lv_aload_n hx hb dX8_device_26 rfl (lv_at hl 0 rfl) ?_
        refine k_get (C := RX8) (T := TX8) (N := 9) (ci := 8) (v := .ref qd) X hE hP 0 rfl rfl iX8 2 (by decide) w_73 rfl dX8_device_27 ?_
        refine kVi (n3 := 0) (As := []) (rest := []) X hl.1 hE hP hD hS hA [(qd, .inr (1, [.ref qn, .ref qd1, .ref qd2, .ref qd3, .ref qd4])), (qn, .inl (cA, 34, .inl f)), (qd1, .inl (cA, 64, .inl (fun _ => 0)))] [(h0, .inr (8, [.ref qn, .ref qs, .ref qd, .ref qp, .ref qr, .ref qt, .ref qa, .ref qm, .ref qe]))] [2, 1, 3] [0] rfl rfl rfl (by decide) (by decide) (by decide) (c_pinsOfRow0 l D cA cB qd qn qd1 qd2 qd3 qd4 f (fun _ => 0) (hfr 14 (by decide)) rfl) w_158 w_69 w_157 w_159 w_160 0 (ci := 1) (T := TX1) (N := 5) rfl rfl (by decide +kernel) rfl rfl (Nat.le_of_ble_eq_true rfl) ⟨(Nat.le_of_ble_eq_true rfl), (Nat.le_of_ble_eq_true rfl)⟩ ⟨(Nat.le_of_ble_eq_true rfl), (Nat.le_of_ble_eq_true rfl)⟩ dX8_device_30 (fun r W1 H locs hw hP hD hS => ?_)
        obtain ⟨rfl, rfl⟩ := hw
        have hP : va_P D classes [(h0, .inr (8, [.ref qn, .ref qs, .ref qd, .ref qp, .ref qr, .ref qt, .ref qa, .ref qm, .ref qe])), (qd, .inr (1, [.ref qn, .ref qd1, .ref qd2, .ref qd3, .ref qd4])), (qn, .inl (cA, 34, .inl f)), (qd1, .inl (cA, 64, .inl (fun _ => 0)))] H := hP
        have hD : va_D A [(h0, .inr (8, [.ref qn, .ref qs, .ref qd, .ref qp, .ref qr, .ref qt, .ref qa, .ref qm, .ref qe])), (qd, .inr (1, [.ref qn, .ref qd1, .ref qd2, .ref qd3, .ref qd4])), (qn, .inl (cA, 34, .inl f)), (qd1, .inl (cA, 64, .inl (fun _ => 0)))] := hD
        exact endI X hr hlocks hP hD hS dX8_device_33 (by unfold sp_device; rw [if_neg c_1, if_pos c_7])
    · skip
      obtain ⟨j, hj, ej⟩ := idx_of (n := 20) (by decide) c_1 c_7
      refine lv_aload_n hx hb dX8_device_10 rfl (lv_at hl 0 rfl) ?_
      refine k_get (C := RX8) (T := TX8) (N := 9) (ci := 8) (v := .ref qn) X hE hP 0 rfl rfl iX8 0 (by decide) w_65 rfl dX8_device_11 ?_
      refine lv_bipush (v := 8) hx hb dX8_device_14 (by decide) ?_
      refine lv_iload_n hx hb dX8_device_16 rfl (lv_at hl 1 rfl) ?_
      refine lv_iadd hx hb dX8_device_17 ?_
      refine tk (y := nI (8 + j)) (by rw [ej]; exact nI_add 8 j) ?_
      refine k_ald (v := (fr_at (8 + j))) X hE hP 1 rfl (8 + j) rfl (by omega) (by decide) ((hfr (8 + j) (by omega)).trans rfl) dX8_device_18 ?_
      exact endI X hr hlocks hP hD hS dX8_device_19 (by unfold sp_device; rw [if_neg c_1, if_neg c_7, ej]; exact sp_dev_at j hj)
set_option maxHeartbeats 4000000 in
set_option maxRecDepth 100000 in
theorem c_restart (l : Launch) (D : va_G) (cA cB : ClassId) (h0 : Nat) (qn : Nat) (qs : Nat) (qd : Nat) (qp : Nat) (qr : Nat) (qt : Nat) (qa : Nat) (qm : Nat) (qe : Nat) (f : Nat → Int32) (qpe : Nat) (qrc : Nat) (gc : Nat → Int32) (hfr : frn f) (hgc : ∀ j, j < 257 → gc j = 0) : CV l yX8_restart cX8_restart 1 none 4 82 0 0 D cA cB [.ref h0] [(h0, .inr (8, [.ref qn, .ref qs, .ref qd, .ref qp, .ref qr, .ref qt, .ref qa, .ref qm, .ref qe])), (qn, .inl (cA, 34, .inl f)), (qs, .inl (cA, 4096, .inl (fun _ => 0))), (qp, .inr (3, [.ref qpe, .int 0, .int 0])), (qr, .inr (4, [.ref qn, .ref qs, .ref qd, .ref qp, .ref qrc, .int 0, .int 0])), (qrc, .inl (cA, 257, .inl gc))] (fun W1 => True) := by
  refine mkV (lv0 := [(0, .ref h0)]) (by decide) (Nat.le_of_ble_eq_true rfl) rfl ?_
  intro p e s m below meth c A ls X hr hlocks hnm hE hA hP hD hS hl
  have hx := X.1
  have hb := X.2.1
  refine lv_aload_n hx hb dX8_restart_0 rfl (lv_at hl 0 rfl) ?_
  refine k_get (C := RX8) (T := TX8) (N := 9) (ci := 8) (v := .ref qr) X hE hP 0 rfl rfl iX8 4 (by decide) w_84 rfl dX8_restart_1 ?_
  refine kVv (n3 := 0) (As := []) (rest := []) X hl.1 hE hP hD hS hA [(qr, .inr (4, [.ref qn, .ref qs, .ref qd, .ref qp, .ref qrc, .int 0, .int 0])), (qn, .inl (cA, 34, .inl f)), (qs, .inl (cA, 4096, .inl (fun _ => 0))), (qrc, .inl (cA, 257, .inl gc)), (qp, .inr (3, [.ref qpe, .int 0, .int 0]))] [(h0, .inr (8, [.ref qn, .ref qs, .ref qd, .ref qp, .ref qr, .ref qt, .ref qa, .ref qm, .ref qe]))] [4, 1, 2, 5, 3] [0] rfl rfl rfl (by decide) (by decide) (by decide) (c_beginAnew l D cA cB qr qn qs qd qp qrc 0 0 qpe 0 0 f (fun _ => 0) gc ) w_111 w_44 w_110 w_112 w_113 0 (ci := 4) (T := TX4) (N := 7) rfl rfl (by decide +kernel) rfl rfl (Nat.le_of_ble_eq_true rfl) ⟨(Nat.le_of_ble_eq_true rfl), (Nat.le_of_ble_eq_true rfl)⟩ ⟨(Nat.le_of_ble_eq_true rfl), (Nat.le_of_ble_eq_true rfl)⟩ dX8_restart_4 (fun W1 H locs hw hP hD hS => ?_)
  obtain ⟨g_1, g2_2, hf_3, hf_4, rfl⟩ := hw
  have hP : va_P D classes [(h0, .inr (8, [.ref qn, .ref qs, .ref qd, .ref qp, .ref qr, .ref qt, .ref qa, .ref qm, .ref qe])), (qr, .inr (4, [.ref qn, .ref qs, .ref qd, .ref qp, .ref qrc, .int 0, .int 0])), (qn, .inl (cA, 34, .inl (upd (upd (upd (upd (upd (upd (upd (upd g_1 18 1) 0 0) 1 0) 2 0) 3 255) 5 4) 4 ((((fun _ => 0) 4078) + (256 * ((fun _ => 0) 4079))) &&& 4095)) 6 0))), (qs, .inl (cA, 4096, .inl (fun _ => 0))), (qrc, .inl (cA, 257, .inl g2_2)), (qp, .inr (3, [.ref qpe, .int 0, .int 0]))] H := hP
  have hD : va_D A [(h0, .inr (8, [.ref qn, .ref qs, .ref qd, .ref qp, .ref qr, .ref qt, .ref qa, .ref qm, .ref qe])), (qr, .inr (4, [.ref qn, .ref qs, .ref qd, .ref qp, .ref qrc, .int 0, .int 0])), (qn, .inl (cA, 34, .inl (upd (upd (upd (upd (upd (upd (upd (upd g_1 18 1) 0 0) 1 0) 2 0) 3 255) 5 4) 4 ((((fun _ => 0) 4078) + (256 * ((fun _ => 0) 4079))) &&& 4095)) 6 0))), (qs, .inl (cA, 4096, .inl (fun _ => 0))), (qrc, .inl (cA, 257, .inl g2_2)), (qp, .inr (3, [.ref qpe, .int 0, .int 0]))] := hD
  exact endV X hr hlocks hP hD hS dX8_restart_7 trivial
end
section
abbrev cX4_interruptComes : ByteArray := prog_6_method_7_code
def yX4_interruptComes : MethodName := ⟨RX4, "interruptComes", "()Z"⟩
abbrev cX4_whyToEnd : ByteArray := prog_6_method_6_code
def yX4_whyToEnd : MethodName := ⟨RX4, "whyToEnd", "(Z)I"⟩
abbrev cX4_takeByte : ByteArray := prog_6_method_13_code
def yX4_takeByte : MethodName := ⟨RX4, "takeByte", "()I"⟩
abbrev cX3_keep : ByteArray := prog_5_method_3_code
def yX3_keep : MethodName := ⟨RX3, "keep", "([I)V"⟩
def RJ9 : String := "java/lang/Math"
abbrev cJ9_min_7cf53 : ByteArray := prog_13_method_69_code
def yJ9_min_7cf53 : MethodName := ⟨RJ9, "min", "(II)I"⟩
abbrev cX3_keepCode : ByteArray := prog_5_method_4_code
def yX3_keepCode : MethodName := ⟨RX3, "keepCode", "(I)V"⟩
abbrev cX8_isShort : ByteArray := prog_1_method_26_code
def yX8_isShort : MethodName := ⟨RX8, "isShort", "(I)Z"⟩
abbrev cX4_setNz : ByteArray := prog_6_method_25_code
def yX4_setNz : MethodName := ⟨RX4, "setNz", "(I)V"⟩
abbrev cX4_set : ByteArray := prog_6_method_27_code
def yX4_set : MethodName := ⟨RX4, "set", "(II)V"⟩
abbrev cX4_useValue : ByteArray := prog_6_method_28_code
def yX4_useValue : MethodName := ⟨RX4, "useValue", "(II)V"⟩
abbrev cX4_doCode : ByteArray := prog_6_method_11_code
def yX4_doCode : MethodName := ⟨RX4, "doCode", "(I)I"⟩
abbrev cX1_passBells : ByteArray := prog_3_method_17_code
def yX1_passBells : MethodName := ⟨RX1, "passBells", "(I)V"⟩
abbrev cX1_pass : ByteArray := prog_3_method_14_code
def yX1_pass : MethodName := ⟨RX1, "pass", "(I)Z"⟩
abbrev cJ9_max_7cf53 : ByteArray := prog_13_method_65_code
def yJ9_max_7cf53 : MethodName := ⟨RJ9, "max", "(II)I"⟩
abbrev cX4_doStep : ByteArray := prog_6_method_8_code
def yX4_doStep : MethodName := ⟨RX4, "doStep", "()V"⟩
set_option maxRecDepth 100000 in
theorem w_161 : (Cond.fieldLink "BelfryBox$Past" 19 "BelfryBox$Past" "latest" "I" : Cond) ∈ gw := List.mem_filter.mpr ⟨List.mem_append_right _ (tb1 (List.mem_of_getElem? (i := 60) rfl)), rfl⟩
set_option maxRecDepth 100000 in
theorem w_162 : (Cond.methodLink "BelfryBox$Past" 22 yJ9_min_7cf53 : Cond) ∈ gw := List.mem_filter.mpr ⟨List.mem_append_right _ (tb3 (List.mem_of_getElem? (i := 197) rfl)), rfl⟩
set_option maxRecDepth 100000 in
theorem w_163 : (Cond.static yJ9_min_7cf53 : Cond) ∈ gw := List.mem_filter.mpr ⟨List.mem_append_right _ (tb2 (List.mem_of_getElem? (i := 213) rfl)), rfl⟩
set_option maxRecDepth 100000 in
theorem w_164 : (Cond.initialized "java/lang/Math" : Cond) ∈ gw := List.mem_filter.mpr ⟨List.mem_append_right _ (tb1 (List.mem_of_getElem? (i := 16) rfl)), rfl⟩
set_option maxRecDepth 100000 in
theorem w_165 : (Cond.code yJ9_min_7cf53 prog_13_method_69_code 2 (Option.some Jvm.ClassFile.FieldType.int) : Cond) ∈ gw := List.mem_filter.mpr ⟨List.mem_append_right _ (tb2 (List.mem_of_getElem? (i := 214) rfl)), rfl⟩
set_option maxRecDepth 100000 in
theorem w_166 : (Cond.methodLink "BelfryBox$Past" 28 ⟨"java/lang/System", "arraycopy", "(Ljava/lang/Object;ILjava/lang/Object;II)V"⟩ : Cond) ∈ gw := List.mem_filter.mpr ⟨List.mem_append_right _ (tb3 (List.mem_of_getElem? (i := 198) rfl)), rfl⟩
set_option maxRecDepth 100000 in
theorem w_167 : (Cond.native ⟨"java/lang/System", "arraycopy", "(Ljava/lang/Object;ILjava/lang/Object;II)V"⟩ : Cond) ∈ gw := List.mem_filter.mpr ⟨List.mem_append_right _ (tb3 (List.mem_of_getElem? (i := 110) rfl)), rfl⟩
set_option maxRecDepth 100000 in
theorem w_168 : (Cond.static ⟨"java/lang/System", "arraycopy", "(Ljava/lang/Object;ILjava/lang/Object;II)V"⟩ : Cond) ∈ gw := List.mem_filter.mpr ⟨List.mem_append_right _ (tb3 (List.mem_of_getElem? (i := 109) rfl)), rfl⟩
set_option maxRecDepth 100000 in
theorem w_169 : (Cond.initialized "java/lang/System" : Cond) ∈ gw := List.mem_filter.mpr ⟨List.mem_append_right _ (tb1 (List.mem_of_getElem? (i := 18) rfl)), rfl⟩
set_option maxRecDepth 100000 in
theorem w_170 : (Cond.methodLink "BelfryBox$Processor" 156 yX4_setNz : Cond) ∈ gw := List.mem_filter.mpr ⟨List.mem_append_right _ (tb4 (List.mem_of_getElem? (i := 14) rfl)), rfl⟩
set_option maxRecDepth 100000 in
theorem w_171 : (Cond.code yX4_setNz prog_6_method_25_code 2 (Option.none : Option Jvm.ClassFile.FieldType) : Cond) ∈ gw := List.mem_filter.mpr ⟨List.mem_append_right _ (tb4 (List.mem_of_getElem? (i := 17) rfl)), rfl⟩
set_option maxRecDepth 100000 in
theorem w_172 : (Cond.instanceMethod yX4_setNz : Cond) ∈ gw := List.mem_filter.mpr ⟨List.mem_append_right _ (tb4 (List.mem_of_getElem? (i := 16) rfl)), rfl⟩
set_option maxRecDepth 100000 in
theorem w_173 : (Cond.selects "BelfryBox$Processor" yX4_setNz yX4_setNz : Cond) ∈ gw := List.mem_filter.mpr ⟨List.mem_append_left _ (List.mem_map.mpr ⟨(⟨"BelfryBox$Processor", "setNz", "(I)V"⟩, 7), sl3 (List.mem_of_getElem? (i := 6) rfl), rfl⟩), rfl⟩
set_option maxRecDepth 100000 in
theorem w_174 : (Cond.methodLink "BelfryBox$Processor" 159 yX4_set : Cond) ∈ gw := List.mem_filter.mpr ⟨List.mem_append_right _ (tb4 (List.mem_of_getElem? (i := 10) rfl)), rfl⟩
set_option maxRecDepth 100000 in
theorem w_175 : (Cond.code yX4_set prog_6_method_27_code 3 (Option.none : Option Jvm.ClassFile.FieldType) : Cond) ∈ gw := List.mem_filter.mpr ⟨List.mem_append_right _ (tb4 (List.mem_of_getElem? (i := 13) rfl)), rfl⟩
set_option maxRecDepth 100000 in
theorem w_176 : (Cond.instanceMethod yX4_set : Cond) ∈ gw := List.mem_filter.mpr ⟨List.mem_append_right _ (tb4 (List.mem_of_getElem? (i := 12) rfl)), rfl⟩
set_option maxRecDepth 100000 in
theorem w_177 : (Cond.selects "BelfryBox$Processor" yX4_set yX4_set : Cond) ∈ gw := List.mem_filter.mpr ⟨List.mem_append_left _ (List.mem_map.mpr ⟨(⟨"BelfryBox$Processor", "set", "(II)V"⟩, 7), sl3 (List.mem_of_getElem? (i := 5) rfl), rfl⟩), rfl⟩
set_option maxRecDepth 100000 in
theorem w_178 : (Cond.code yX8_isShort prog_1_method_26_code 1 (Option.some Jvm.ClassFile.FieldType.boolean) : Cond) ∈ gw := List.mem_filter.mpr ⟨List.mem_append_right _ (tb3 (List.mem_of_getElem? (i := 229) rfl)), rfl⟩
set_option maxRecDepth 100000 in
theorem w_179 : (Cond.static yX8_isShort : Cond) ∈ gw := List.mem_filter.mpr ⟨List.mem_append_right _ (tb3 (List.mem_of_getElem? (i := 228) rfl)), rfl⟩
set_option maxRecDepth 100000 in
theorem w_180 : (Cond.methodLink "BelfryBox$Processor" 82 yX4_takeByte : Cond) ∈ gw := List.mem_filter.mpr ⟨List.mem_append_right _ (tb3 (List.mem_of_getElem? (i := 199) rfl)), rfl⟩
set_option maxRecDepth 100000 in
theorem w_181 : (Cond.code yX4_takeByte prog_6_method_13_code 2 (Option.some Jvm.ClassFile.FieldType.int) : Cond) ∈ gw := List.mem_filter.mpr ⟨List.mem_append_right _ (tb3 (List.mem_of_getElem? (i := 202) rfl)), rfl⟩
set_option maxRecDepth 100000 in
theorem w_182 : (Cond.instanceMethod yX4_takeByte : Cond) ∈ gw := List.mem_filter.mpr ⟨List.mem_append_right _ (tb3 (List.mem_of_getElem? (i := 201) rfl)), rfl⟩
set_option maxRecDepth 100000 in
theorem w_183 : (Cond.selects "BelfryBox$Processor" yX4_takeByte yX4_takeByte : Cond) ∈ gw := List.mem_filter.mpr ⟨List.mem_append_left _ (List.mem_map.mpr ⟨(⟨"BelfryBox$Processor", "takeByte", "()I"⟩, 7), sl2 (List.mem_of_getElem? (i := 11) rfl), rfl⟩), rfl⟩
set_option maxRecDepth 100000 in
theorem w_184 : (Cond.methodLink "BelfryBox$Processor" 125 yX4_useValue : Cond) ∈ gw := List.mem_filter.mpr ⟨List.mem_append_right _ (tb4 (List.mem_of_getElem? (i := 102) rfl)), rfl⟩
set_option maxRecDepth 100000 in
theorem w_185 : (Cond.code yX4_useValue prog_6_method_28_code 3 (Option.none : Option Jvm.ClassFile.FieldType) : Cond) ∈ gw := List.mem_filter.mpr ⟨List.mem_append_right _ (tb4 (List.mem_of_getElem? (i := 105) rfl)), rfl⟩
set_option maxRecDepth 100000 in
theorem w_186 : (Cond.instanceMethod yX4_useValue : Cond) ∈ gw := List.mem_filter.mpr ⟨List.mem_append_right _ (tb4 (List.mem_of_getElem? (i := 104) rfl)), rfl⟩
set_option maxRecDepth 100000 in
theorem w_187 : (Cond.selects "BelfryBox$Processor" yX4_useValue yX4_useValue : Cond) ∈ gw := List.mem_filter.mpr ⟨List.mem_append_left _ (List.mem_map.mpr ⟨(⟨"BelfryBox$Processor", "useValue", "(II)V"⟩, 7), sl4 (List.mem_of_getElem? (i := 9) rfl), rfl⟩), rfl⟩
set_option maxRecDepth 100000 in
theorem w_188 : (Cond.fieldLink "BelfryBox$Processor" 132 "BelfryBox$Processor" "WAY_CYCLES" "[I" : Cond) ∈ gw := List.mem_filter.mpr ⟨List.mem_append_right _ (tb4 (List.mem_of_getElem? (i := 171) rfl)), rfl⟩
set_option maxRecDepth 100000 in
theorem w_189 : (Cond.fieldLink "BelfryBox$Processor" 135 "BelfryBox$Processor" "MORE_CYCLES" "[I" : Cond) ∈ gw := List.mem_filter.mpr ⟨List.mem_append_right _ (tb4 (List.mem_of_getElem? (i := 173) rfl)), rfl⟩
set_option maxRecDepth 100000 in
theorem w_190 : (Cond.methodLink "BelfryBox$Devices" 59 yX1_passBells : Cond) ∈ gw := List.mem_filter.mpr ⟨List.mem_append_right _ (tb4 (List.mem_of_getElem? (i := 187) rfl)), rfl⟩
set_option maxRecDepth 100000 in
theorem w_191 : (Cond.code yX1_passBells prog_3_method_17_code 3 (Option.none : Option Jvm.ClassFile.FieldType) : Cond) ∈ gw := List.mem_filter.mpr ⟨List.mem_append_right _ (tb4 (List.mem_of_getElem? (i := 190) rfl)), rfl⟩
set_option maxRecDepth 100000 in
theorem w_192 : (Cond.instanceMethod yX1_passBells : Cond) ∈ gw := List.mem_filter.mpr ⟨List.mem_append_right _ (tb4 (List.mem_of_getElem? (i := 189) rfl)), rfl⟩
set_option maxRecDepth 100000 in
theorem w_193 : (Cond.selects "BelfryBox$Devices" yX1_passBells yX1_passBells : Cond) ∈ gw := List.mem_filter.mpr ⟨List.mem_append_left _ (List.mem_map.mpr ⟨(⟨"BelfryBox$Devices", "passBells", "(I)V"⟩, 5), sl5 (List.mem_of_getElem? (i := 11) rfl), rfl⟩), rfl⟩
set_option maxRecDepth 100000 in
theorem w_194 : (Cond.methodLink "BelfryBox$Devices" 62 yJ9_max_7cf53 : Cond) ∈ gw := List.mem_filter.mpr ⟨List.mem_append_right _ (tb4 (List.mem_of_getElem? (i := 191) rfl)), rfl⟩
set_option maxRecDepth 100000 in
theorem w_195 : (Cond.static yJ9_max_7cf53 : Cond) ∈ gw := List.mem_filter.mpr ⟨List.mem_append_right _ (tb2 (List.mem_of_getElem? (i := 180) rfl)), rfl⟩
set_option maxRecDepth 100000 in
theorem w_196 : (Cond.code yJ9_max_7cf53 prog_13_method_65_code 2 (Option.some Jvm.ClassFile.FieldType.int) : Cond) ∈ gw := List.mem_filter.mpr ⟨List.mem_append_right _ (tb2 (List.mem_of_getElem? (i := 181) rfl)), rfl⟩
set_option maxRecDepth 100000 in
theorem w_197 : (Cond.methodLink "BelfryBox$Processor" 78 yX3_keep : Cond) ∈ gw := List.mem_filter.mpr ⟨List.mem_append_right _ (tb3 (List.mem_of_getElem? (i := 193) rfl)), rfl⟩
set_option maxRecDepth 100000 in
theorem w_198 : (Cond.code yX3_keep prog_5_method_3_code 2 (Option.none : Option Jvm.ClassFile.FieldType) : Cond) ∈ gw := List.mem_filter.mpr ⟨List.mem_append_right _ (tb3 (List.mem_of_getElem? (i := 196) rfl)), rfl⟩
set_option maxRecDepth 100000 in
theorem w_199 : (Cond.instanceMethod yX3_keep : Cond) ∈ gw := List.mem_filter.mpr ⟨List.mem_append_right _ (tb3 (List.mem_of_getElem? (i := 194) rfl)), rfl⟩
set_option maxRecDepth 100000 in
theorem w_200 : (Cond.selects "BelfryBox$Past" yX3_keep yX3_keep : Cond) ∈ gw := List.mem_filter.mpr ⟨List.mem_append_right _ (tb3 (List.mem_of_getElem? (i := 195) rfl)), rfl⟩
set_option maxRecDepth 100000 in
theorem w_201 : (Cond.methodLink "BelfryBox$Processor" 69 yX4_interruptComes : Cond) ∈ gw := List.mem_filter.mpr ⟨List.mem_append_right _ (tb3 (List.mem_of_getElem? (i := 181) rfl)), rfl⟩
set_option maxRecDepth 100000 in
theorem w_202 : (Cond.code yX4_interruptComes prog_6_method_7_code 1 (Option.some Jvm.ClassFile.FieldType.boolean) : Cond) ∈ gw := List.mem_filter.mpr ⟨List.mem_append_right _ (tb3 (List.mem_of_getElem? (i := 184) rfl)), rfl⟩
set_option maxRecDepth 100000 in
theorem w_203 : (Cond.instanceMethod yX4_interruptComes : Cond) ∈ gw := List.mem_filter.mpr ⟨List.mem_append_right _ (tb3 (List.mem_of_getElem? (i := 183) rfl)), rfl⟩
set_option maxRecDepth 100000 in
theorem w_204 : (Cond.selects "BelfryBox$Processor" yX4_interruptComes yX4_interruptComes : Cond) ∈ gw := List.mem_filter.mpr ⟨List.mem_append_left _ (List.mem_map.mpr ⟨(⟨"BelfryBox$Processor", "interruptComes", "()Z"⟩, 7), sl2 (List.mem_of_getElem? (i := 9) rfl), rfl⟩), rfl⟩
set_option maxRecDepth 100000 in
theorem w_205 : (Cond.methodLink "BelfryBox$Processor" 86 yX3_keepCode : Cond) ∈ gw := List.mem_filter.mpr ⟨List.mem_append_right _ (tb3 (List.mem_of_getElem? (i := 203) rfl)), rfl⟩
set_option maxRecDepth 100000 in
theorem w_206 : (Cond.code yX3_keepCode prog_5_method_4_code 2 (Option.none : Option Jvm.ClassFile.FieldType) : Cond) ∈ gw := List.mem_filter.mpr ⟨List.mem_append_right _ (tb3 (List.mem_of_getElem? (i := 206) rfl)), rfl⟩
set_option maxRecDepth 100000 in
theorem w_207 : (Cond.instanceMethod yX3_keepCode : Cond) ∈ gw := List.mem_filter.mpr ⟨List.mem_append_right _ (tb3 (List.mem_of_getElem? (i := 204) rfl)), rfl⟩
set_option maxRecDepth 100000 in
theorem w_208 : (Cond.selects "BelfryBox$Past" yX3_keepCode yX3_keepCode : Cond) ∈ gw := List.mem_filter.mpr ⟨List.mem_append_right _ (tb3 (List.mem_of_getElem? (i := 205) rfl)), rfl⟩
set_option maxRecDepth 100000 in
theorem w_209 : (Cond.methodLink "BelfryBox$Processor" 93 yX4_doCode : Cond) ∈ gw := List.mem_filter.mpr ⟨List.mem_append_right _ (tb3 (List.mem_of_getElem? (i := 223) rfl)), rfl⟩
set_option maxRecDepth 100000 in
theorem w_210 : (Cond.code yX4_doCode prog_6_method_11_code 5 (Option.some Jvm.ClassFile.FieldType.int) : Cond) ∈ gw := List.mem_filter.mpr ⟨List.mem_append_right _ (tb3 (List.mem_of_getElem? (i := 226) rfl)), rfl⟩
set_option maxRecDepth 100000 in
theorem w_211 : (Cond.instanceMethod yX4_doCode : Cond) ∈ gw := List.mem_filter.mpr ⟨List.mem_append_right _ (tb3 (List.mem_of_getElem? (i := 225) rfl)), rfl⟩
set_option maxRecDepth 100000 in
theorem w_212 : (Cond.selects "BelfryBox$Processor" yX4_doCode yX4_doCode : Cond) ∈ gw := List.mem_filter.mpr ⟨List.mem_append_left _ (List.mem_map.mpr ⟨(⟨"BelfryBox$Processor", "doCode", "(I)I"⟩, 7), sl2 (List.mem_of_getElem? (i := 15) rfl), rfl⟩), rfl⟩
set_option maxRecDepth 100000 in
theorem w_213 : (Cond.methodLink "BelfryBox$Processor" 96 yX1_pass : Cond) ∈ gw := List.mem_filter.mpr ⟨List.mem_append_right _ (tb4 (List.mem_of_getElem? (i := 175) rfl)), rfl⟩
set_option maxRecDepth 100000 in
theorem w_214 : (Cond.code yX1_pass prog_3_method_14_code 3 (Option.some Jvm.ClassFile.FieldType.boolean) : Cond) ∈ gw := List.mem_filter.mpr ⟨List.mem_append_right _ (tb4 (List.mem_of_getElem? (i := 178) rfl)), rfl⟩
set_option maxRecDepth 100000 in
theorem w_215 : (Cond.instanceMethod yX1_pass : Cond) ∈ gw := List.mem_filter.mpr ⟨List.mem_append_right _ (tb4 (List.mem_of_getElem? (i := 176) rfl)), rfl⟩
set_option maxRecDepth 100000 in
theorem w_216 : (Cond.selects "BelfryBox$Devices" yX1_pass yX1_pass : Cond) ∈ gw := List.mem_filter.mpr ⟨List.mem_append_right _ (tb4 (List.mem_of_getElem? (i := 177) rfl)), rfl⟩
theorem nw_32 : (Cond.methodLinkNest "BelfryBox$Processor" 109 yX8_isShort "BelfryBox" : Cond) ∈ nests := List.mem_of_getElem? (i := 32) rfl
theorem dX4_interruptComes_0 : decode cX4_interruptComes 0 = .ok (.aload_n 0, 1) := by decide +kernel
theorem dX4_interruptComes_1 : decode cX4_interruptComes 1 = .ok (.getfield 15, 3) := by decide +kernel
theorem dX4_interruptComes_4 : decode cX4_interruptComes 4 = .ok (.iconst 5, 1) := by decide +kernel
theorem dX4_interruptComes_5 : decode cX4_interruptComes 5 = .ok (.iaload, 1) := by decide +kernel
theorem dX4_interruptComes_6 : decode cX4_interruptComes 6 = .ok (.iconst 4, 1) := by decide +kernel
theorem dX4_interruptComes_7 : decode cX4_interruptComes 7 = .ok (.iand, 1) := by decide +kernel
theorem dX4_interruptComes_8 : decode cX4_interruptComes 8 = .ok (.ifCond .ne 17, 3) := by decide +kernel
theorem dX4_interruptComes_25 : decode cX4_interruptComes 25 = .ok (.iconst 0, 1) := by decide +kernel
theorem dX4_interruptComes_26 : decode cX4_interruptComes 26 = .ok (.ireturn, 1) := by decide +kernel
theorem dX4_whyToEnd_0 : decode cX4_whyToEnd 0 = .ok (.iload_n 1, 1) := by decide +kernel
theorem dX4_whyToEnd_1 : decode cX4_whyToEnd 1 = .ok (.ifCond .eq 5, 3) := by decide +kernel
theorem dX4_whyToEnd_6 : decode cX4_whyToEnd 6 = .ok (.aload_n 0, 1) := by decide +kernel
theorem dX4_whyToEnd_7 : decode cX4_whyToEnd 7 = .ok (.getfield 15, 3) := by decide +kernel
theorem dX4_whyToEnd_10 : decode cX4_whyToEnd 10 = .ok (.bipush 6, 2) := by decide +kernel
theorem dX4_whyToEnd_12 : decode cX4_whyToEnd 12 = .ok (.iaload, 1) := by decide +kernel
theorem dX4_whyToEnd_13 : decode cX4_whyToEnd 13 = .ok (.ifCond .eq 5, 3) := by decide +kernel
theorem dX4_whyToEnd_18 : decode cX4_whyToEnd 18 = .ok (.aload_n 0, 1) := by decide +kernel
theorem dX4_whyToEnd_19 : decode cX4_whyToEnd 19 = .ok (.aload_n 0, 1) := by decide +kernel
theorem dX4_whyToEnd_20 : decode cX4_whyToEnd 20 = .ok (.getfield 15, 3) := by decide +kernel
theorem dX4_whyToEnd_23 : decode cX4_whyToEnd 23 = .ok (.iconst 4, 1) := by decide +kernel
theorem dX4_whyToEnd_24 : decode cX4_whyToEnd 24 = .ok (.iaload, 1) := by decide +kernel
theorem dX4_whyToEnd_25 : decode cX4_whyToEnd 25 = .ok (.invokevirtual 66, 3) := by decide +kernel
theorem dX4_whyToEnd_28 : decode cX4_whyToEnd 28 = .ok (.sipush 216, 3) := by decide +kernel
theorem dX4_whyToEnd_31 : decode cX4_whyToEnd 31 = .ok (.if_icmp .ne 24, 3) := by decide +kernel
theorem dX4_whyToEnd_55 : decode cX4_whyToEnd 55 = .ok (.iconst 0, 1) := by decide +kernel
theorem dX4_whyToEnd_56 : decode cX4_whyToEnd 56 = .ok (.istore_n 2, 1) := by decide +kernel
theorem dX4_whyToEnd_57 : decode cX4_whyToEnd 57 = .ok (.iload_n 2, 1) := by decide +kernel
theorem dX4_whyToEnd_58 : decode cX4_whyToEnd 58 = .ok (.ifCond .eq 14, 3) := by decide +kernel
theorem dX4_whyToEnd_72 : decode cX4_whyToEnd 72 = .ok (.iconst 0, 1) := by decide +kernel
theorem dX4_whyToEnd_73 : decode cX4_whyToEnd 73 = .ok (.ireturn, 1) := by decide +kernel
theorem dX4_takeByte_0 : decode cX4_takeByte 0 = .ok (.aload_n 0, 1) := by decide +kernel
theorem dX4_takeByte_1 : decode cX4_takeByte 1 = .ok (.aload_n 0, 1) := by decide +kernel
theorem dX4_takeByte_2 : decode cX4_takeByte 2 = .ok (.getfield 15, 3) := by decide +kernel
theorem dX4_takeByte_5 : decode cX4_takeByte 5 = .ok (.iconst 4, 1) := by decide +kernel
theorem dX4_takeByte_6 : decode cX4_takeByte 6 = .ok (.iaload, 1) := by decide +kernel
theorem dX4_takeByte_7 : decode cX4_takeByte 7 = .ok (.invokevirtual 66, 3) := by decide +kernel
theorem dX4_takeByte_10 : decode cX4_takeByte 10 = .ok (.istore_n 1, 1) := by decide +kernel
theorem dX4_takeByte_11 : decode cX4_takeByte 11 = .ok (.aload_n 0, 1) := by decide +kernel
theorem dX4_takeByte_12 : decode cX4_takeByte 12 = .ok (.getfield 15, 3) := by decide +kernel
theorem dX4_takeByte_15 : decode cX4_takeByte 15 = .ok (.iconst 4, 1) := by decide +kernel
theorem dX4_takeByte_16 : decode cX4_takeByte 16 = .ok (.aload_n 0, 1) := by decide +kernel
theorem dX4_takeByte_17 : decode cX4_takeByte 17 = .ok (.getfield 15, 3) := by decide +kernel
theorem dX4_takeByte_20 : decode cX4_takeByte 20 = .ok (.iconst 4, 1) := by decide +kernel
theorem dX4_takeByte_21 : decode cX4_takeByte 21 = .ok (.iaload, 1) := by decide +kernel
theorem dX4_takeByte_22 : decode cX4_takeByte 22 = .ok (.iconst 1, 1) := by decide +kernel
theorem dX4_takeByte_23 : decode cX4_takeByte 23 = .ok (.iadd, 1) := by decide +kernel
theorem dX4_takeByte_24 : decode cX4_takeByte 24 = .ok (.sipush 4095, 3) := by decide +kernel
theorem dX4_takeByte_27 : decode cX4_takeByte 27 = .ok (.iand, 1) := by decide +kernel
theorem dX4_takeByte_28 : decode cX4_takeByte 28 = .ok (.iastore, 1) := by decide +kernel
theorem dX4_takeByte_29 : decode cX4_takeByte 29 = .ok (.iload_n 1, 1) := by decide +kernel
theorem dX4_takeByte_30 : decode cX4_takeByte 30 = .ok (.ireturn, 1) := by decide +kernel
theorem dX3_keep_0 : decode cX3_keep 0 = .ok (.aload_n 0, 1) := by decide +kernel
theorem dX3_keep_1 : decode cX3_keep 1 = .ok (.aload_n 0, 1) := by decide +kernel
theorem dX3_keep_2 : decode cX3_keep 2 = .ok (.getfield 19, 3) := by decide +kernel
theorem dX3_keep_5 : decode cX3_keep 5 = .ok (.iconst 1, 1) := by decide +kernel
theorem dX3_keep_6 : decode cX3_keep 6 = .ok (.iadd, 1) := by decide +kernel
theorem dX3_keep_7 : decode cX3_keep 7 = .ok (.sipush 256, 3) := by decide +kernel
theorem dX3_keep_10 : decode cX3_keep 10 = .ok (.irem, 1) := by decide +kernel
theorem dX3_keep_11 : decode cX3_keep 11 = .ok (.putfield 19, 3) := by decide +kernel
theorem dX3_keep_14 : decode cX3_keep 14 = .ok (.aload_n 0, 1) := by decide +kernel
theorem dX3_keep_15 : decode cX3_keep 15 = .ok (.aload_n 0, 1) := by decide +kernel
theorem dX3_keep_16 : decode cX3_keep 16 = .ok (.getfield 15, 3) := by decide +kernel
theorem dX3_keep_19 : decode cX3_keep 19 = .ok (.iconst 1, 1) := by decide +kernel
theorem dX3_keep_20 : decode cX3_keep 20 = .ok (.iadd, 1) := by decide +kernel
theorem dX3_keep_21 : decode cX3_keep 21 = .ok (.sipush 256, 3) := by decide +kernel
theorem dX3_keep_24 : decode cX3_keep 24 = .ok (.invokestatic 22, 3) := by decide +kernel
theorem dX3_keep_27 : decode cX3_keep 27 = .ok (.putfield 15, 3) := by decide +kernel
theorem dX3_keep_30 : decode cX3_keep 30 = .ok (.aload_n 1, 1) := by decide +kernel
theorem dX3_keep_31 : decode cX3_keep 31 = .ok (.iconst 0, 1) := by decide +kernel
theorem dX3_keep_32 : decode cX3_keep 32 = .ok (.aload_n 0, 1) := by decide +kernel
theorem dX3_keep_33 : decode cX3_keep 33 = .ok (.getfield 11, 3) := by decide +kernel
theorem dX3_keep_36 : decode cX3_keep 36 = .ok (.aload_n 0, 1) := by decide +kernel
theorem dX3_keep_37 : decode cX3_keep 37 = .ok (.getfield 19, 3) := by decide +kernel
theorem dX3_keep_40 : decode cX3_keep 40 = .ok (.bipush 42, 2) := by decide +kernel
theorem dX3_keep_42 : decode cX3_keep 42 = .ok (.imul, 1) := by decide +kernel
theorem dX3_keep_43 : decode cX3_keep 43 = .ok (.bipush 34, 2) := by decide +kernel
theorem dX3_keep_45 : decode cX3_keep 45 = .ok (.invokestatic 28, 3) := by decide +kernel
theorem dX3_keep_48 : decode cX3_keep 48 = .ok (.aload_n 0, 1) := by decide +kernel
theorem dX3_keep_49 : decode cX3_keep 49 = .ok (.getfield 11, 3) := by decide +kernel
theorem dX3_keep_52 : decode cX3_keep 52 = .ok (.aload_n 0, 1) := by decide +kernel
theorem dX3_keep_53 : decode cX3_keep 53 = .ok (.getfield 19, 3) := by decide +kernel
theorem dX3_keep_56 : decode cX3_keep 56 = .ok (.bipush 42, 2) := by decide +kernel
theorem dX3_keep_58 : decode cX3_keep 58 = .ok (.imul, 1) := by decide +kernel
theorem dX3_keep_59 : decode cX3_keep 59 = .ok (.bipush 35, 2) := by decide +kernel
theorem dX3_keep_61 : decode cX3_keep 61 = .ok (.iadd, 1) := by decide +kernel
theorem dX3_keep_62 : decode cX3_keep 62 = .ok (.iconst 0, 1) := by decide +kernel
theorem dX3_keep_63 : decode cX3_keep 63 = .ok (.iastore, 1) := by decide +kernel
theorem dX3_keep_64 : decode cX3_keep 64 = .ok (.return_, 1) := by decide +kernel
theorem dX3_keepCode_0 : decode cX3_keepCode 0 = .ok (.aload_n 0, 1) := by decide +kernel
theorem dX3_keepCode_1 : decode cX3_keepCode 1 = .ok (.getfield 11, 3) := by decide +kernel
theorem dX3_keepCode_4 : decode cX3_keepCode 4 = .ok (.aload_n 0, 1) := by decide +kernel
theorem dX3_keepCode_5 : decode cX3_keepCode 5 = .ok (.getfield 19, 3) := by decide +kernel
theorem dX3_keepCode_8 : decode cX3_keepCode 8 = .ok (.bipush 42, 2) := by decide +kernel
theorem dX3_keepCode_10 : decode cX3_keepCode 10 = .ok (.imul, 1) := by decide +kernel
theorem dX3_keepCode_11 : decode cX3_keepCode 11 = .ok (.bipush 34, 2) := by decide +kernel
theorem dX3_keepCode_13 : decode cX3_keepCode 13 = .ok (.iadd, 1) := by decide +kernel
theorem dX3_keepCode_14 : decode cX3_keepCode 14 = .ok (.iload_n 1, 1) := by decide +kernel
theorem dX3_keepCode_15 : decode cX3_keepCode 15 = .ok (.iastore, 1) := by decide +kernel
theorem dX3_keepCode_16 : decode cX3_keepCode 16 = .ok (.return_, 1) := by decide +kernel
theorem dX8_isShort_0 : decode cX8_isShort 0 = .ok (.iload_n 0, 1) := by decide +kernel
theorem dX8_isShort_1 : decode cX8_isShort 1 = .ok (.bipush 7, 2) := by decide +kernel
theorem dX8_isShort_3 : decode cX8_isShort 3 = .ok (.iand, 1) := by decide +kernel
theorem dX8_isShort_4 : decode cX8_isShort 4 = .ok (.ifCond .ne 15, 3) := by decide +kernel
theorem dX8_isShort_7 : decode cX8_isShort 7 = .ok (.iload_n 0, 1) := by decide +kernel
theorem dX8_isShort_8 : decode cX8_isShort 8 = .ok (.iconst 3, 1) := by decide +kernel
theorem dX8_isShort_9 : decode cX8_isShort 9 = .ok (.ishr, 1) := by decide +kernel
theorem dX8_isShort_10 : decode cX8_isShort 10 = .ok (.bipush 16, 2) := by decide +kernel
theorem dX8_isShort_12 : decode cX8_isShort 12 = .ok (.if_icmp .lt 7, 3) := by decide +kernel
theorem dX8_isShort_19 : decode cX8_isShort 19 = .ok (.iconst 0, 1) := by decide +kernel
theorem dX8_isShort_20 : decode cX8_isShort 20 = .ok (.ireturn, 1) := by decide +kernel
theorem dX4_setNz_0 : decode cX4_setNz 0 = .ok (.aload_n 0, 1) := by decide +kernel
theorem dX4_setNz_1 : decode cX4_setNz 1 = .ok (.getfield 15, 3) := by decide +kernel
theorem dX4_setNz_4 : decode cX4_setNz 4 = .ok (.iconst 5, 1) := by decide +kernel
theorem dX4_setNz_5 : decode cX4_setNz 5 = .ok (.aload_n 0, 1) := by decide +kernel
theorem dX4_setNz_6 : decode cX4_setNz 6 = .ok (.getfield 15, 3) := by decide +kernel
theorem dX4_setNz_9 : decode cX4_setNz 9 = .ok (.iconst 5, 1) := by decide +kernel
theorem dX4_setNz_10 : decode cX4_setNz 10 = .ok (.iaload, 1) := by decide +kernel
theorem dX4_setNz_11 : decode cX4_setNz 11 = .ok (.sipush (-131), 3) := by decide +kernel
theorem dX4_setNz_14 : decode cX4_setNz 14 = .ok (.iand, 1) := by decide +kernel
theorem dX4_setNz_15 : decode cX4_setNz 15 = .ok (.iload_n 1, 1) := by decide +kernel
theorem dX4_setNz_16 : decode cX4_setNz 16 = .ok (.sipush 128, 3) := by decide +kernel
theorem dX4_setNz_19 : decode cX4_setNz 19 = .ok (.iand, 1) := by decide +kernel
theorem dX4_setNz_20 : decode cX4_setNz 20 = .ok (.ior, 1) := by decide +kernel
theorem dX4_setNz_21 : decode cX4_setNz 21 = .ok (.iload_n 1, 1) := by decide +kernel
theorem dX4_setNz_22 : decode cX4_setNz 22 = .ok (.ifCond .ne 7, 3) := by decide +kernel
theorem dX4_setNz_25 : decode cX4_setNz 25 = .ok (.iconst 2, 1) := by decide +kernel
theorem dX4_setNz_26 : decode cX4_setNz 26 = .ok (.goto 4, 3) := by decide +kernel
theorem dX4_setNz_30 : decode cX4_setNz 30 = .ok (.ior, 1) := by decide +kernel
theorem dX4_setNz_31 : decode cX4_setNz 31 = .ok (.iastore, 1) := by decide +kernel
theorem dX4_setNz_32 : decode cX4_setNz 32 = .ok (.return_, 1) := by decide +kernel
theorem dX4_set_0 : decode cX4_set 0 = .ok (.aload_n 0, 1) := by decide +kernel
theorem dX4_set_1 : decode cX4_set 1 = .ok (.getfield 15, 3) := by decide +kernel
theorem dX4_set_4 : decode cX4_set 4 = .ok (.iload_n 1, 1) := by decide +kernel
theorem dX4_set_5 : decode cX4_set 5 = .ok (.iload_n 2, 1) := by decide +kernel
theorem dX4_set_6 : decode cX4_set 6 = .ok (.sipush 255, 3) := by decide +kernel
theorem dX4_set_9 : decode cX4_set 9 = .ok (.iand, 1) := by decide +kernel
theorem dX4_set_10 : decode cX4_set 10 = .ok (.iastore, 1) := by decide +kernel
theorem dX4_set_11 : decode cX4_set 11 = .ok (.aload_n 0, 1) := by decide +kernel
theorem dX4_set_12 : decode cX4_set 12 = .ok (.iload_n 2, 1) := by decide +kernel
theorem dX4_set_13 : decode cX4_set 13 = .ok (.sipush 255, 3) := by decide +kernel
theorem dX4_set_16 : decode cX4_set 16 = .ok (.iand, 1) := by decide +kernel
theorem dX4_set_17 : decode cX4_set 17 = .ok (.invokevirtual 156, 3) := by decide +kernel
theorem dX4_set_20 : decode cX4_set 20 = .ok (.return_, 1) := by decide +kernel
theorem dX4_useValue_0 : decode cX4_useValue 0 = .ok (.iload_n 1, 1) := by decide +kernel
theorem dX4_useValue_1 : decode cX4_useValue 1 = .ok (.tableswitch 245 0 14 #[75, 84, 93, 102, 110, 122, 138, 154, 170, 184, 198, 212, 220, 228, 236], 75) := by decide +kernel
theorem dX4_useValue_76 : decode cX4_useValue 76 = .ok (.aload_n 0, 1) := by decide +kernel
theorem dX4_useValue_77 : decode cX4_useValue 77 = .ok (.iconst 0, 1) := by decide +kernel
theorem dX4_useValue_78 : decode cX4_useValue 78 = .ok (.iload_n 2, 1) := by decide +kernel
theorem dX4_useValue_79 : decode cX4_useValue 79 = .ok (.invokevirtual 159, 3) := by decide +kernel
theorem dX4_useValue_82 : decode cX4_useValue 82 = .ok (.goto 170, 3) := by decide +kernel
theorem dX4_useValue_252 : decode cX4_useValue 252 = .ok (.return_, 1) := by decide +kernel
theorem dX4_doCode_0 : decode cX4_doCode 0 = .ok (.iload_n 1, 1) := by decide +kernel
theorem dX4_doCode_1 : decode cX4_doCode 1 = .ok (.iconst 3, 1) := by decide +kernel
theorem dX4_doCode_2 : decode cX4_doCode 2 = .ok (.ishr, 1) := by decide +kernel
theorem dX4_doCode_3 : decode cX4_doCode 3 = .ok (.istore_n 2, 1) := by decide +kernel
theorem dX4_doCode_4 : decode cX4_doCode 4 = .ok (.iload_n 1, 1) := by decide +kernel
theorem dX4_doCode_5 : decode cX4_doCode 5 = .ok (.bipush 7, 2) := by decide +kernel
theorem dX4_doCode_7 : decode cX4_doCode 7 = .ok (.iand, 1) := by decide +kernel
theorem dX4_doCode_8 : decode cX4_doCode 8 = .ok (.istore_n 3, 1) := by decide +kernel
theorem dX4_doCode_9 : decode cX4_doCode 9 = .ok (.iload_n 1, 1) := by decide +kernel
theorem dX4_doCode_10 : decode cX4_doCode 10 = .ok (.invokestatic 109, 3) := by decide +kernel
theorem dX4_doCode_13 : decode cX4_doCode 13 = .ok (.ifCond .eq 32, 3) := by decide +kernel
theorem dX4_doCode_45 : decode cX4_doCode 45 = .ok (.iload_n 2, 1) := by decide +kernel
theorem dX4_doCode_46 : decode cX4_doCode 46 = .ok (.bipush 16, 2) := by decide +kernel
theorem dX4_doCode_48 : decode cX4_doCode 48 = .ok (.if_icmp .ge 31, 3) := by decide +kernel
theorem dX4_doCode_51 : decode cX4_doCode 51 = .ok (.aload_n 0, 1) := by decide +kernel
theorem dX4_doCode_52 : decode cX4_doCode 52 = .ok (.iload_n 2, 1) := by decide +kernel
theorem dX4_doCode_53 : decode cX4_doCode 53 = .ok (.iload_n 3, 1) := by decide +kernel
theorem dX4_doCode_54 : decode cX4_doCode 54 = .ok (.ifCond .ne 10, 3) := by decide +kernel
theorem dX4_doCode_57 : decode cX4_doCode 57 = .ok (.aload_n 0, 1) := by decide +kernel
theorem dX4_doCode_58 : decode cX4_doCode 58 = .ok (.invokevirtual 82, 3) := by decide +kernel
theorem dX4_doCode_61 : decode cX4_doCode 61 = .ok (.goto 12, 3) := by decide +kernel
theorem dX4_doCode_73 : decode cX4_doCode 73 = .ok (.invokevirtual 125, 3) := by decide +kernel
theorem dX4_doCode_76 : decode cX4_doCode 76 = .ok (.goto 13, 3) := by decide +kernel
theorem dX4_doCode_89 : decode cX4_doCode 89 = .ok (.getstatic 132, 3) := by decide +kernel
theorem dX4_doCode_92 : decode cX4_doCode 92 = .ok (.iload_n 3, 1) := by decide +kernel
theorem dX4_doCode_93 : decode cX4_doCode 93 = .ok (.iaload, 1) := by decide +kernel
theorem dX4_doCode_94 : decode cX4_doCode 94 = .ok (.getstatic 135, 3) := by decide +kernel
theorem dX4_doCode_97 : decode cX4_doCode 97 = .ok (.iload_n 2, 1) := by decide +kernel
theorem dX4_doCode_98 : decode cX4_doCode 98 = .ok (.iaload, 1) := by decide +kernel
theorem dX4_doCode_99 : decode cX4_doCode 99 = .ok (.iadd, 1) := by decide +kernel
theorem dX4_doCode_100 : decode cX4_doCode 100 = .ok (.ireturn, 1) := by decide +kernel
theorem dX1_passBells_0 : decode cX1_passBells 0 = .ok (.bipush 20, 2) := by decide +kernel
theorem dX1_passBells_2 : decode cX1_passBells 2 = .ok (.istore_n 2, 1) := by decide +kernel
theorem dX1_passBells_3 : decode cX1_passBells 3 = .ok (.iload_n 2, 1) := by decide +kernel
theorem dX1_passBells_4 : decode cX1_passBells 4 = .ok (.bipush 28, 2) := by decide +kernel
theorem dX1_passBells_6 : decode cX1_passBells 6 = .ok (.if_icmp .ge 59, 3) := by decide +kernel
theorem dX1_passBells_9 : decode cX1_passBells 9 = .ok (.aload_n 0, 1) := by decide +kernel
theorem dX1_passBells_10 : decode cX1_passBells 10 = .ok (.getfield 24, 3) := by decide +kernel
theorem dX1_passBells_13 : decode cX1_passBells 13 = .ok (.iload_n 2, 1) := by decide +kernel
theorem dX1_passBells_14 : decode cX1_passBells 14 = .ok (.iaload, 1) := by decide +kernel
theorem dX1_passBells_15 : decode cX1_passBells 15 = .ok (.iload_n 1, 1) := by decide +kernel
theorem dX1_passBells_16 : decode cX1_passBells 16 = .ok (.if_icmp .le 16, 3) := by decide +kernel
theorem dX1_passBells_32 : decode cX1_passBells 32 = .ok (.aload_n 0, 1) := by decide +kernel
theorem dX1_passBells_33 : decode cX1_passBells 33 = .ok (.getfield 24, 3) := by decide +kernel
theorem dX1_passBells_36 : decode cX1_passBells 36 = .ok (.iload_n 2, 1) := by decide +kernel
theorem dX1_passBells_37 : decode cX1_passBells 37 = .ok (.iaload, 1) := by decide +kernel
theorem dX1_passBells_38 : decode cX1_passBells 38 = .ok (.ifCond .le 21, 3) := by decide +kernel
theorem dX1_passBells_59 : decode cX1_passBells 59 = .ok (.iinc 2 1, 3) := by decide +kernel
theorem dX1_passBells_62 : decode cX1_passBells 62 = .ok (.goto (-59), 3) := by decide +kernel
theorem dX1_passBells_65 : decode cX1_passBells 65 = .ok (.return_, 1) := by decide +kernel
theorem dX1_pass_0 : decode cX1_pass 0 = .ok (.aload_n 0, 1) := by decide +kernel
theorem dX1_pass_1 : decode cX1_pass 1 = .ok (.getfield 24, 3) := by decide +kernel
theorem dX1_pass_4 : decode cX1_pass 4 = .ok (.bipush 7, 2) := by decide +kernel
theorem dX1_pass_6 : decode cX1_pass 6 = .ok (.dup2, 1) := by decide +kernel
theorem dX1_pass_7 : decode cX1_pass 7 = .ok (.iaload, 1) := by decide +kernel
theorem dX1_pass_8 : decode cX1_pass 8 = .ok (.iload_n 1, 1) := by decide +kernel
theorem dX1_pass_9 : decode cX1_pass 9 = .ok (.iadd, 1) := by decide +kernel
theorem dX1_pass_10 : decode cX1_pass 10 = .ok (.iastore, 1) := by decide +kernel
theorem dX1_pass_11 : decode cX1_pass 11 = .ok (.aload_n 0, 1) := by decide +kernel
theorem dX1_pass_12 : decode cX1_pass 12 = .ok (.getfield 24, 3) := by decide +kernel
theorem dX1_pass_15 : decode cX1_pass 15 = .ok (.bipush 10, 2) := by decide +kernel
theorem dX1_pass_17 : decode cX1_pass 17 = .ok (.iaload, 1) := by decide +kernel
theorem dX1_pass_18 : decode cX1_pass 18 = .ok (.ifCond .eq 8, 3) := by decide +kernel
theorem dX1_pass_26 : decode cX1_pass 26 = .ok (.aload_n 0, 1) := by decide +kernel
theorem dX1_pass_27 : decode cX1_pass 27 = .ok (.getfield 24, 3) := by decide +kernel
theorem dX1_pass_30 : decode cX1_pass 30 = .ok (.bipush 11, 2) := by decide +kernel
theorem dX1_pass_32 : decode cX1_pass 32 = .ok (.iaload, 1) := by decide +kernel
theorem dX1_pass_33 : decode cX1_pass 33 = .ok (.ifCond .eq 8, 3) := by decide +kernel
theorem dX1_pass_41 : decode cX1_pass 41 = .ok (.aload_n 0, 1) := by decide +kernel
theorem dX1_pass_42 : decode cX1_pass 42 = .ok (.iload_n 1, 1) := by decide +kernel
theorem dX1_pass_43 : decode cX1_pass 43 = .ok (.invokevirtual 59, 3) := by decide +kernel
theorem dX1_pass_46 : decode cX1_pass 46 = .ok (.aload_n 0, 1) := by decide +kernel
theorem dX1_pass_47 : decode cX1_pass 47 = .ok (.getfield 24, 3) := by decide +kernel
theorem dX1_pass_50 : decode cX1_pass 50 = .ok (.bipush 17, 2) := by decide +kernel
theorem dX1_pass_52 : decode cX1_pass 52 = .ok (.iaload, 1) := by decide +kernel
theorem dX1_pass_53 : decode cX1_pass 53 = .ok (.ifCond .le 18, 3) := by decide +kernel
theorem dX1_pass_71 : decode cX1_pass 71 = .ok (.iconst 0, 1) := by decide +kernel
theorem dX1_pass_72 : decode cX1_pass 72 = .ok (.istore_n 2, 1) := by decide +kernel
theorem dX1_pass_73 : decode cX1_pass 73 = .ok (.aload_n 0, 1) := by decide +kernel
theorem dX1_pass_74 : decode cX1_pass 74 = .ok (.getfield 24, 3) := by decide +kernel
theorem dX1_pass_77 : decode cX1_pass 77 = .ok (.bipush 17, 2) := by decide +kernel
theorem dX1_pass_79 : decode cX1_pass 79 = .ok (.iconst 0, 1) := by decide +kernel
theorem dX1_pass_80 : decode cX1_pass 80 = .ok (.aload_n 0, 1) := by decide +kernel
theorem dX1_pass_81 : decode cX1_pass 81 = .ok (.getfield 24, 3) := by decide +kernel
theorem dX1_pass_84 : decode cX1_pass 84 = .ok (.bipush 17, 2) := by decide +kernel
theorem dX1_pass_86 : decode cX1_pass 86 = .ok (.iaload, 1) := by decide +kernel
theorem dX1_pass_87 : decode cX1_pass 87 = .ok (.iload_n 1, 1) := by decide +kernel
theorem dX1_pass_88 : decode cX1_pass 88 = .ok (.isub, 1) := by decide +kernel
theorem dX1_pass_89 : decode cX1_pass 89 = .ok (.invokestatic 62, 3) := by decide +kernel
theorem dX1_pass_92 : decode cX1_pass 92 = .ok (.iastore, 1) := by decide +kernel
theorem dX1_pass_93 : decode cX1_pass 93 = .ok (.iload_n 2, 1) := by decide +kernel
theorem dX1_pass_94 : decode cX1_pass 94 = .ok (.ireturn, 1) := by decide +kernel
theorem dX4_doStep_0 : decode cX4_doStep 0 = .ok (.aload_n 0, 1) := by decide +kernel
theorem dX4_doStep_1 : decode cX4_doStep 1 = .ok (.getfield 25, 3) := by decide +kernel
theorem dX4_doStep_4 : decode cX4_doStep 4 = .ok (.aload_n 0, 1) := by decide +kernel
theorem dX4_doStep_5 : decode cX4_doStep 5 = .ok (.getfield 15, 3) := by decide +kernel
theorem dX4_doStep_8 : decode cX4_doStep 8 = .ok (.invokevirtual 78, 3) := by decide +kernel
theorem dX4_doStep_11 : decode cX4_doStep 11 = .ok (.aload_n 0, 1) := by decide +kernel
theorem dX4_doStep_12 : decode cX4_doStep 12 = .ok (.invokevirtual 69, 3) := by decide +kernel
theorem dX4_doStep_15 : decode cX4_doStep 15 = .ok (.ifCond .eq 9, 3) := by decide +kernel
theorem dX4_doStep_24 : decode cX4_doStep 24 = .ok (.aload_n 0, 1) := by decide +kernel
theorem dX4_doStep_25 : decode cX4_doStep 25 = .ok (.invokevirtual 82, 3) := by decide +kernel
theorem dX4_doStep_28 : decode cX4_doStep 28 = .ok (.istore_n 1, 1) := by decide +kernel
theorem dX4_doStep_29 : decode cX4_doStep 29 = .ok (.aload_n 0, 1) := by decide +kernel
theorem dX4_doStep_30 : decode cX4_doStep 30 = .ok (.getfield 25, 3) := by decide +kernel
theorem dX4_doStep_33 : decode cX4_doStep 33 = .ok (.iload_n 1, 1) := by decide +kernel
theorem dX4_doStep_34 : decode cX4_doStep 34 = .ok (.invokevirtual 86, 3) := by decide +kernel
theorem dX4_doStep_37 : decode cX4_doStep 37 = .ok (.aload_n 0, 1) := by decide +kernel
theorem dX4_doStep_38 : decode cX4_doStep 38 = .ok (.getfield 9, 3) := by decide +kernel
theorem dX4_doStep_41 : decode cX4_doStep 41 = .ok (.iload_n 1, 1) := by decide +kernel
theorem dX4_doStep_42 : decode cX4_doStep 42 = .ok (.dup2, 1) := by decide +kernel
theorem dX4_doStep_43 : decode cX4_doStep 43 = .ok (.iaload, 1) := by decide +kernel
theorem dX4_doStep_44 : decode cX4_doStep 44 = .ok (.iconst 1, 1) := by decide +kernel
theorem dX4_doStep_45 : decode cX4_doStep 45 = .ok (.iadd, 1) := by decide +kernel
theorem dX4_doStep_46 : decode cX4_doStep 46 = .ok (.iastore, 1) := by decide +kernel
theorem dX4_doStep_47 : decode cX4_doStep 47 = .ok (.iload_n 1, 1) := by decide +kernel
theorem dX4_doStep_48 : decode cX4_doStep 48 = .ok (.sipush 256, 3) := by decide +kernel
theorem dX4_doStep_51 : decode cX4_doStep 51 = .ok (.if_icmp .ne 10, 3) := by decide +kernel
theorem dX4_doStep_61 : decode cX4_doStep 61 = .ok (.aload_n 0, 1) := by decide +kernel
theorem dX4_doStep_62 : decode cX4_doStep 62 = .ok (.iload_n 1, 1) := by decide +kernel
theorem dX4_doStep_63 : decode cX4_doStep 63 = .ok (.invokevirtual 93, 3) := by decide +kernel
theorem dX4_doStep_66 : decode cX4_doStep 66 = .ok (.istore_n 2, 1) := by decide +kernel
theorem dX4_doStep_67 : decode cX4_doStep 67 = .ok (.aload_n 0, 1) := by decide +kernel
theorem dX4_doStep_68 : decode cX4_doStep 68 = .ok (.getfield 21, 3) := by decide +kernel
theorem dX4_doStep_71 : decode cX4_doStep 71 = .ok (.iload_n 2, 1) := by decide +kernel
theorem dX4_doStep_72 : decode cX4_doStep 72 = .ok (.invokevirtual 96, 3) := by decide +kernel
theorem dX4_doStep_75 : decode cX4_doStep 75 = .ok (.ifCond .eq 7, 3) := by decide +kernel
theorem dX4_doStep_82 : decode cX4_doStep 82 = .ok (.return_, 1) := by decide +kernel
/-- what stays of the numbers while a fresh object runs: it isn't halted, clock, drum and watch stand, I is set, the bells are quiet -/
def InvN (f : Nat → Int32) : Prop := f 6 = 0 ∧ f 10 = 0 ∧ f 11 = 0 ∧ f 17 = 0 ∧ (f 5 = 4 ∨ f 5 = 6) ∧ f 20 = 0 ∧ f 21 = 0 ∧ f 22 = 0 ∧ f 23 = 0 ∧ f 24 = 0 ∧ f 25 = 0 ∧ f 26 = 0 ∧ f 27 = 0
theorem f5_and {f : Nat → Int32} (h : InvN f) : ¬ (f 5) &&& 4 = 0 := by
  rcases h.2.2.2.2.1 with q | q <;> rw [q] <;> decide
theorem f5_nz {f : Nat → Int32} (h : f 5 = 4 ∨ f 5 = 6) : (((f 5) &&& (-131)) ||| 0) ||| 2 = 6 := by
  rcases h with q | q <;> rw [q] <;> decide
theorem min256 (k : Nat) (h : k ≤ 256) : (if 256 < nI (k + 1) then 256 else nI (k + 1)) = nI (min (k + 1) 256) := by
  show (if nI 256 < nI (k + 1) then nI 256 else nI (k + 1)) = _
  by_cases q : 256 < k + 1
  · rw [if_pos (nI_lt q (by omega)), Nat.min_eq_right (by omega)]
  · rw [if_neg (nI_nlt (by omega) (by omega)), Nat.min_eq_left (by omega)]
theorem frn_inv {f : Nat → Int32} (h : frn f) : InvN f := ⟨h 6 (by decide), h 10 (by decide), h 11 (by decide), h 17 (by decide), Or.inl (h 5 (by decide)), h 20 (by decide), h 21 (by decide), h 22 (by decide), h 23 (by decide), h 24 (by decide), h 25 (by decide), h 26 (by decide), h 27 (by decide)⟩
def sp_run (a : Int32) : Int32 := if a < 1 then -1 else if a ≤ 2000 then a else -1
set_option maxHeartbeats 4000000 in
set_option maxRecDepth 100000 in
theorem c_interruptComes (l : Launch) (D : va_G) (cA cB : ClassId) (h0 : Nat) (hn : Nat) (hs : Nat) (hd : Nat) (hp : Nat) (hc : Nat) (wy : Int32) (dn : Int32) (f : Nat → Int32) (hI : InvN f) : CI l yX4_interruptComes cX4_interruptComes 1 (some .boolean) 0 0 0 0 D cA cB [.ref h0] [(h0, .inr (4, [.ref hn, .ref hs, .ref hd, .ref hp, .ref hc, .int wy, .int dn])), (hn, .inl (cA, 34, .inl f))] (fun r W1 => r = 0 ∧ W1 = [(h0, .inr (4, [.ref hn, .ref hs, .ref hd, .ref hp, .ref hc, .int wy, .int dn])), (hn, .inl (cA, 34, .inl f))]) := by
  refine mkI (lv0 := [(0, .ref h0)]) (by decide) (Nat.le_of_ble_eq_true rfl) rfl ?_
  intro p e s m below meth c A ls X hr hlocks hnm hE hA hP hD hS hl
  have hx := X.1
  have hb := X.2.1
  refine lv_aload_n hx hb dX4_interruptComes_0 rfl (lv_at hl 0 rfl) ?_
  refine k_get (C := RX4) (T := TX4) (N := 7) (ci := 4) (v := .ref hn) X hE hP 0 rfl rfl iX4 0 (by decide) w_25 rfl dX4_interruptComes_1 ?_
  refine lv_iconst (v := 5) hx hb dX4_interruptComes_4 (by decide) ?_
  refine k_ald (v := f 5) X hE hP 1 rfl 5 rfl (by decide) (by decide) rfl dX4_interruptComes_5 ?_
  refine lv_iconst (v := 4) hx hb dX4_interruptComes_6 (by decide) ?_
  refine lv_iand hx hb dX4_interruptComes_7 ?_
  refine lv_if_ne (tgt := 25) hx hb dX4_interruptComes_8 (by decide) (fun c_8 => ?_) (fun c_8 => absurd c_8 (f5_and hI))
  refine lv_iconst (v := 0) hx hb dX4_interruptComes_25 (by decide) ?_
  exact endZ X hr rfl hlocks hP hD hS dX4_interruptComes_26 ⟨rfl, rfl⟩
set_option maxHeartbeats 4000000 in
set_option maxRecDepth 100000 in
theorem c_whyToEnd0 (l : Launch) (D : va_G) (cA cB : ClassId) (h0 : Nat) (hn : Nat) (hs : Nat) (hd : Nat) (hp : Nat) (hc : Nat) (wy : Int32) (dn : Int32) (f : Nat → Int32) (st : Nat → Int32) (hI : InvN f) (hz : ∀ j, j < 4096 → st j = 0) : CI l yX4_whyToEnd cX4_whyToEnd 3 (some .int) 1 21 0 0 D cA cB [.ref h0, .int 0] [(h0, .inr (4, [.ref hn, .ref hs, .ref hd, .ref hp, .ref hc, .int wy, .int dn])), (hn, .inl (cA, 34, .inl f)), (hs, .inl (cA, 4096, .inl st))] (fun r W1 => r = 0 ∧ W1 = [(h0, .inr (4, [.ref hn, .ref hs, .ref hd, .ref hp, .ref hc, .int wy, .int dn])), (hn, .inl (cA, 34, .inl f)), (hs, .inl (cA, 4096, .inl st))]) := by
  refine mkI (lv0 := [(0, .ref h0), (1, .int 0)]) (by decide) (Nat.le_of_ble_eq_true rfl) rfl ?_
  intro p e s m below meth c A ls X hr hlocks hnm hE hA hP hD hS hl
  have hx := X.1
  have hb := X.2.1
  refine lv_iload_n hx hb dX4_whyToEnd_0 rfl (lv_at hl 1 rfl) ?_
  refine lv_if_eq (tgt := 6) hx hb dX4_whyToEnd_1 (by decide) (fun c_1 => ?_) (fun c_1 => absurd (by decide) c_1)
  refine lv_aload_n hx hb dX4_whyToEnd_6 rfl (lv_at hl 0 rfl) ?_
  refine k_get (C := RX4) (T := TX4) (N := 7) (ci := 4) (v := .ref hn) X hE hP 0 rfl rfl iX4 0 (by decide) w_25 rfl dX4_whyToEnd_7 ?_
  refine lv_bipush (v := 6) hx hb dX4_whyToEnd_10 (by decide) ?_
  refine k_ald (v := 0) X hE hP 1 rfl 6 rfl (by decide) (by decide) hI.1 dX4_whyToEnd_12 ?_
  refine lv_if_eq (tgt := 18) hx hb dX4_whyToEnd_13 (by decide) (fun c_13 => ?_) (fun c_13 => absurd (by decide) c_13)
  obtain ⟨j1, hj1, ej1⟩ := pk_andE (f 4) (m := 4095) 12 (by decide)
  refine lv_aload_n hx hb dX4_whyToEnd_18 rfl (lv_at hl 0 rfl) ?_
  refine lv_aload_n hx hb dX4_whyToEnd_19 rfl (lv_at hl 0 rfl) ?_
  refine k_get (C := RX4) (T := TX4) (N := 7) (ci := 4) (v := .ref hn) X hE hP 0 rfl rfl iX4 0 (by decide) w_25 rfl dX4_whyToEnd_20 ?_
  refine lv_iconst (v := 4) hx hb dX4_whyToEnd_23 (by decide) ?_
  refine k_ald (v := f 4) X hE hP 1 rfl 4 rfl (by decide) (by decide) rfl dX4_whyToEnd_24 ?_
  refine kVi (n3 := 1) (As := [.int (f 4)]) (rest := []) X hl.1 hE hP hD hS hA [(h0, .inr (4, [.ref hn, .ref hs, .ref hd, .ref hp, .ref hc, .int wy, .int dn])), (hs, .inl (cA, 4096, .inl st))] [(hn, .inl (cA, 34, .inl f))] [0, 2] [1] rfl rfl rfl (by decide) (by decide) (by decide) (c_byteAt l D cA cB h0 hn hs hd hp hc wy dn (f 4) j1 st ej1 hj1) w_43 w_44 w_42 w_45 w_46 0 (ci := 4) (T := TX4) (N := 7) rfl rfl (by decide +kernel) rfl rfl (Nat.le_of_ble_eq_true rfl) ⟨(Nat.le_of_ble_eq_true rfl), (Nat.le_of_ble_eq_true rfl)⟩ ⟨(Nat.le_of_ble_eq_true rfl), (Nat.le_of_ble_eq_true rfl)⟩ dX4_whyToEnd_25 (fun r W1 H locs hw hP hD hS => ?_)
  obtain ⟨rfl, rfl⟩ := hw
  have hP : va_P D classes [(hn, .inl (cA, 34, .inl f)), (h0, .inr (4, [.ref hn, .ref hs, .ref hd, .ref hp, .ref hc, .int wy, .int dn])), (hs, .inl (cA, 4096, .inl st))] H := hP
  have hD : va_D A [(hn, .inl (cA, 34, .inl f)), (h0, .inr (4, [.ref hn, .ref hs, .ref hd, .ref hp, .ref hc, .int wy, .int dn])), (hs, .inl (cA, 4096, .inl st))] := hD
  refine tk (y := 0) (hz j1 hj1) ?_
  refine lv_sipush (v := 216) hx hb dX4_whyToEnd_28 (by decide) ?_
  refine lv_icmp_ne (tgt := 55) hx hb dX4_whyToEnd_31 (by decide) (fun c_31 => ?_) (fun c_31 => absurd c_31 (by decide))
  refine lv_iconst (v := 0) hx hb dX4_whyToEnd_55 (by decide) ?_
  refine lv_istore_n (lv' := [(2, .int 0), (0, .ref h0), (1, .int 0)]) hx hb dX4_whyToEnd_56 rfl hl (by decide) rfl (fun ls hl => ?_)
  refine lv_iload_n hx hb dX4_whyToEnd_57 rfl (lv_at hl 0 rfl) ?_
  refine lv_if_eq (tgt := 72) hx hb dX4_whyToEnd_58 (by decide) (fun c_58 => ?_) (fun c_58 => absurd (by decide) c_58)
  refine lv_iconst (v := 0) hx hb dX4_whyToEnd_72 (by decide) ?_
  have hP : va_P D classes [(h0, .inr (4, [.ref hn, .ref hs, .ref hd, .ref hp, .ref hc, .int wy, .int dn])), (hn, .inl (cA, 34, .inl f)), (hs, .inl (cA, 4096, .inl st))] _ := hP.sub [1, 0, 2] rfl
  have hD : va_D A [(h0, .inr (4, [.ref hn, .ref hs, .ref hd, .ref hp, .ref hc, .int wy, .int dn])), (hn, .inl (cA, 34, .inl f)), (hs, .inl (cA, 4096, .inl st))] := hD.sub [1, 0, 2] (by decide) rfl
  exact endI X hr hlocks hP hD hS dX4_whyToEnd_73 ⟨rfl, rfl⟩
set_option maxHeartbeats 4000000 in
set_option maxRecDepth 100000 in
theorem c_takeByte (l : Launch) (D : va_G) (cA cB : ClassId) (h0 : Nat) (hn : Nat) (hs : Nat) (hd : Nat) (hp : Nat) (hc : Nat) (wy : Int32) (dn : Int32) (f : Nat → Int32) (st : Nat → Int32) (hz : ∀ j, j < 4096 → st j = 0) : CI l yX4_takeByte cX4_takeByte 2 (some .int) 1 21 0 0 D cA cB [.ref h0] [(h0, .inr (4, [.ref hn, .ref hs, .ref hd, .ref hp, .ref hc, .int wy, .int dn])), (hn, .inl (cA, 34, .inl f)), (hs, .inl (cA, 4096, .inl st))] (fun r W1 => r = 0 ∧ W1 = [(h0, .inr (4, [.ref hn, .ref hs, .ref hd, .ref hp, .ref hc, .int wy, .int dn])), (hn, .inl (cA, 34, .inl (upd f 4 (((f 4) + 1) &&& 4095)))), (hs, .inl (cA, 4096, .inl st))]) := by
  refine mkI (lv0 := [(0, .ref h0)]) (by decide) (Nat.le_of_ble_eq_true rfl) rfl ?_
  intro p e s m below meth c A ls X hr hlocks hnm hE hA hP hD hS hl
  have hx := X.1
  have hb := X.2.1
  obtain ⟨j1, hj1, ej1⟩ := pk_andE (f 4) (m := 4095) 12 (by decide)
  refine lv_aload_n hx hb dX4_takeByte_0 rfl (lv_at hl 0 rfl) ?_
  refine lv_aload_n hx hb dX4_takeByte_1 rfl (lv_at hl 0 rfl) ?_
  refine k_get (C := RX4) (T := TX4) (N := 7) (ci := 4) (v := .ref hn) X hE hP 0 rfl rfl iX4 0 (by decide) w_25 rfl dX4_takeByte_2 ?_
  refine lv_iconst (v := 4) hx hb dX4_takeByte_5 (by decide) ?_
  refine k_ald (v := f 4) X hE hP 1 rfl 4 rfl (by decide) (by decide) rfl dX4_takeByte_6 ?_
  refine kVi (n3 := 1) (As := [.int (f 4)]) (rest := []) X hl.1 hE hP hD hS hA [(h0, .inr (4, [.ref hn, .ref hs, .ref hd, .ref hp, .ref hc, .int wy, .int dn])), (hs, .inl (cA, 4096, .inl st))] [(hn, .inl (cA, 34, .inl f))] [0, 2] [1] rfl rfl rfl (by decide) (by decide) (by decide) (c_byteAt l D cA cB h0 hn hs hd hp hc wy dn (f 4) j1 st ej1 hj1) w_43 w_44 w_42 w_45 w_46 0 (ci := 4) (T := TX4) (N := 7) rfl rfl (by decide +kernel) rfl rfl (Nat.le_of_ble_eq_true rfl) ⟨(Nat.le_of_ble_eq_true rfl), (Nat.le_of_ble_eq_true rfl)⟩ ⟨(Nat.le_of_ble_eq_true rfl), (Nat.le_of_ble_eq_true rfl)⟩ dX4_takeByte_7 (fun r W1 H locs hw hP hD hS => ?_)
  obtain ⟨rfl, rfl⟩ := hw
  have hP : va_P D classes [(hn, .inl (cA, 34, .inl f)), (h0, .inr (4, [.ref hn, .ref hs, .ref hd, .ref hp, .ref hc, .int wy, .int dn])), (hs, .inl (cA, 4096, .inl st))] H := hP
  have hD : va_D A [(hn, .inl (cA, 34, .inl f)), (h0, .inr (4, [.ref hn, .ref hs, .ref hd, .ref hp, .ref hc, .int wy, .int dn])), (hs, .inl (cA, 4096, .inl st))] := hD
  refine tk (y := 0) (hz j1 hj1) ?_
  refine lv_istore_n (lv' := [(1, .int 0), (0, .ref h0)]) hx hb dX4_takeByte_10 rfl hl (by decide) rfl (fun ls hl => ?_)
  refine lv_aload_n hx hb dX4_takeByte_11 rfl (lv_at hl 1 rfl) ?_
  refine k_get (C := RX4) (T := TX4) (N := 7) (ci := 4) (v := .ref hn) X hE hP 1 rfl rfl iX4 0 (by decide) w_25 rfl dX4_takeByte_12 ?_
  refine lv_iconst (v := 4) hx hb dX4_takeByte_15 (by decide) ?_
  refine lv_aload_n hx hb dX4_takeByte_16 rfl (lv_at hl 1 rfl) ?_
  refine k_get (C := RX4) (T := TX4) (N := 7) (ci := 4) (v := .ref hn) X hE hP 1 rfl rfl iX4 0 (by decide) w_25 rfl dX4_takeByte_17 ?_
  refine lv_iconst (v := 4) hx hb dX4_takeByte_20 (by decide) ?_
  refine k_ald (v := f 4) X hE hP 0 rfl 4 rfl (by decide) (by decide) rfl dX4_takeByte_21 ?_
  refine lv_iconst (v := 1) hx hb dX4_takeByte_22 (by decide) ?_
  refine lv_iadd hx hb dX4_takeByte_23 ?_
  refine lv_sipush (v := 4095) hx hb dX4_takeByte_24 (by decide) ?_
  refine lv_iand hx hb dX4_takeByte_27 ?_
  refine k_ast X hE hP hD hS 0 rfl 4 rfl (by decide) (by decide) [(hn, .inl (cA, 34, .inl (upd f 4 (((f 4) + 1) &&& 4095)))), (h0, .inr (4, [.ref hn, .ref hs, .ref hd, .ref hp, .ref hc, .int wy, .int dn])), (hs, .inl (cA, 4096, .inl st))] rfl dX4_takeByte_28 (fun H locs hP hD hS => ?_)
  refine lv_iload_n hx hb dX4_takeByte_29 rfl (lv_at hl 0 rfl) ?_
  have hP : va_P D classes [(h0, .inr (4, [.ref hn, .ref hs, .ref hd, .ref hp, .ref hc, .int wy, .int dn])), (hn, .inl (cA, 34, .inl (upd f 4 (((f 4) + 1) &&& 4095)))), (hs, .inl (cA, 4096, .inl st))] _ := hP.sub [1, 0, 2] rfl
  have hD : va_D A [(h0, .inr (4, [.ref hn, .ref hs, .ref hd, .ref hp, .ref hc, .int wy, .int dn])), (hn, .inl (cA, 34, .inl (upd f 4 (((f 4) + 1) &&& 4095)))), (hs, .inl (cA, 4096, .inl st))] := hD.sub [1, 0, 2] (by decide) rfl
  exact endI X hr hlocks hP hD hS dX4_takeByte_30 ⟨rfl, rfl⟩
set_option maxHeartbeats 4000000 in
set_option maxRecDepth 100000 in
theorem c_keep (l : Launch) (D : va_G) (cA cB : ClassId) (h0 : Nat) (he : Nat) (hn : Nat) (la : Nat) (ke : Nat) (f : Nat → Int32) (g : Nat → Int32) (hla : la < 256) (hke : ke ≤ 256) : CV l yX3_keep cX3_keep 2 none 1 40 0 0 D cA cB [.ref h0, .ref hn] [(h0, .inr (3, [.ref he, .int (nI la), .int (nI ke)])), (hn, .inl (cA, 34, .inl f)), (he, .inl (cA, 10752, .inl g))] (fun W1 => ∃ (la2 : Nat) (ke2 : Nat) (g2 : Nat → Int32), (la2 < 256) ∧ (ke2 ≤ 256) ∧ W1 = [(h0, .inr (3, [.ref he, .int (nI la2), .int (nI ke2)])), (hn, .inl (cA, 34, .inl f)), (he, .inl (cA, 10752, .inl g2))]) := by
  refine mkV (lv0 := [(0, .ref h0), (1, .ref hn)]) (by decide) (Nat.le_of_ble_eq_true rfl) rfl ?_
  intro p e s m below meth c A ls X hr hlocks hnm hE hA hP hD hS hl
  have hx := X.1
  have hb := X.2.1
  have hm := Nat.mod_lt (la + 1) (show 0 < 256 by decide)
  refine lv_aload_n hx hb dX3_keep_0 rfl (lv_at hl 0 rfl) ?_
  refine lv_aload_n hx hb dX3_keep_1 rfl (lv_at hl 0 rfl) ?_
  refine k_get (C := RX3) (T := TX3) (N := 3) (ci := 3) (v := .int (nI la)) X hE hP 0 rfl rfl iX3 1 (by decide) w_161 rfl dX3_keep_2 ?_
  refine lv_iconst (v := 1) hx hb dX3_keep_5 (by decide) ?_
  refine lv_iadd hx hb dX3_keep_6 ?_
  refine tk (y := nI (la + 1)) (nI_1 la) ?_
  refine lv_sipush (v := 256) hx hb dX3_keep_7 (by decide) ?_
  refine lv_irem hx hb dX3_keep_10 (by decide) ?_
  refine tk (y := nI ((la + 1) % 256)) (pk_rem (a := la + 1) (d := 256) (by omega) (by decide) (by decide)) ?_
  refine k_put (C := RX3) (T := TX3) (N := 3) (ci := 3) (v := .int (nI ((la + 1) % 256))) (ty := .int) X hE hP hD hS 0 rfl rfl iX3 tyX3 tyX3_ok nmX3 1 (by decide) w_161 rfl (by decide +kernel) rfl rfl (Nat.le_of_ble_eq_true rfl) [(h0, .inr (3, [.ref he, .int (nI ((la + 1) % 256)), .int (nI ke)])), (hn, .inl (cA, 34, .inl f)), (he, .inl (cA, 10752, .inl g))] rfl dX3_keep_11 (fun H locs hP hD hS => ?_)
  refine lv_aload_n hx hb dX3_keep_14 rfl (lv_at hl 0 rfl) ?_
  refine lv_aload_n hx hb dX3_keep_15 rfl (lv_at hl 0 rfl) ?_
  refine k_get (C := RX3) (T := TX3) (N := 3) (ci := 3) (v := .int (nI ke)) X hE hP 0 rfl rfl iX3 2 (by decide) w_41 rfl dX3_keep_16 ?_
  refine lv_iconst (v := 1) hx hb dX3_keep_19 (by decide) ?_
  refine lv_iadd hx hb dX3_keep_20 ?_
  refine tk (y := nI (ke + 1)) (nI_1 ke) ?_
  refine lv_sipush (v := 256) hx hb dX3_keep_21 (by decide) ?_
  refine va_mmin hx hb (X.2.2.1.trans hl.1.symm) X.2.2.2.1 (X.2.2.2.2 _ w_162) (X.2.2.2.2 _ w_163) (X.2.2.2.2 _ w_164) (X.2.2.2.2 _ w_165) (Nat.le_of_ble_eq_true rfl) (Nat.le_of_ble_eq_true rfl) (Nat.le_of_ble_eq_true rfl) (Nat.le_of_ble_eq_true rfl) dX3_keep_24 ?_
  refine tk (y := nI (min (ke + 1) 256)) (min256 ke hke) ?_
  refine k_put (C := RX3) (T := TX3) (N := 3) (ci := 3) (v := .int (nI (min (ke + 1) 256))) (ty := .int) X hE hP hD hS 0 rfl rfl iX3 tyX3 tyX3_ok nmX3 2 (by decide) w_41 rfl (by decide +kernel) rfl rfl (Nat.le_of_ble_eq_true rfl) [(h0, .inr (3, [.ref he, .int (nI ((la + 1) % 256)), .int (nI (min (ke + 1) 256))])), (hn, .inl (cA, 34, .inl f)), (he, .inl (cA, 10752, .inl g))] rfl dX3_keep_27 (fun H locs hP hD hS => ?_)
  refine lv_aload_n hx hb dX3_keep_30 rfl (lv_at hl 1 rfl) ?_
  refine lv_iconst (v := 0) hx hb dX3_keep_31 (by decide) ?_
  refine lv_aload_n hx hb dX3_keep_32 rfl (lv_at hl 0 rfl) ?_
  refine k_get (C := RX3) (T := TX3) (N := 3) (ci := 3) (v := .ref he) X hE hP 0 rfl rfl iX3 0 (by decide) w_7 rfl dX3_keep_33 ?_
  refine lv_aload_n hx hb dX3_keep_36 rfl (lv_at hl 0 rfl) ?_
  refine k_get (C := RX3) (T := TX3) (N := 3) (ci := 3) (v := .int (nI ((la + 1) % 256))) X hE hP 0 rfl rfl iX3 1 (by decide) w_161 rfl dX3_keep_37 ?_
  refine lv_bipush (v := 42) hx hb dX3_keep_40 (by decide) ?_
  refine lv_imul hx hb dX3_keep_42 ?_
  refine tk (y := nI (((la + 1) % 256) * 42)) (pk_mul _ 42) ?_
  refine lv_bipush (v := 34) hx hb dX3_keep_43 (by decide) ?_
  refine va_copyi (ty := .int) hx hb (X.2.2.1.trans hl.1.symm) X.2.2.2.1 (X.2.2.2.2 _ w_166) (X.2.2.2.2 _ w_167) (X.2.2.2.2 _ w_168) (X.2.2.2.2 _ w_169) hE.1 hP hD hS 1 2 0 0 rfl rfl rfl rfl rfl (by decide) (nI_pos (by omega)) (by decide) (by decide) (by rw [nI_clamp (by omega)]; show _ + 34 ≤ 10752; omega) (fun _ _ => rfl) (Nat.le_of_ble_eq_true rfl) (Nat.le_of_ble_eq_true rfl) dX3_keep_45 (fun H locs hP hD hS => ?_)
  obtain ⟨g_1, eg_1⟩ : ∃ z, z = va_cpy f g (0 : Int32).toNatClampNeg (nI (((la + 1) % 256) * 42) : Int32).toNatClampNeg (34 : Int32).toNatClampNeg := ⟨_, rfl⟩
  rw [← eg_1] at hP hD
  have hP : va_P D classes [(h0, .inr (3, [.ref he, .int (nI ((la + 1) % 256)), .int (nI (min (ke + 1) 256))])), (hn, .inl (cA, 34, .inl f)), (he, .inl (cA, 10752, .inl g_1))] H := hP
  have hD : va_D A [(h0, .inr (3, [.ref he, .int (nI ((la + 1) % 256)), .int (nI (min (ke + 1) 256))])), (hn, .inl (cA, 34, .inl f)), (he, .inl (cA, 10752, .inl g_1))] := hD
  refine lv_aload_n hx hb dX3_keep_48 rfl (lv_at hl 0 rfl) ?_
  refine k_get (C := RX3) (T := TX3) (N := 3) (ci := 3) (v := .ref he) X hE hP 0 rfl rfl iX3 0 (by decide) w_7 rfl dX3_keep_49 ?_
  refine lv_aload_n hx hb dX3_keep_52 rfl (lv_at hl 0 rfl) ?_
  refine k_get (C := RX3) (T := TX3) (N := 3) (ci := 3) (v := .int (nI ((la + 1) % 256))) X hE hP 0 rfl rfl iX3 1 (by decide) w_161 rfl dX3_keep_53 ?_
  refine lv_bipush (v := 42) hx hb dX3_keep_56 (by decide) ?_
  refine lv_imul hx hb dX3_keep_58 ?_
  refine tk (y := nI (((la + 1) % 256) * 42)) (pk_mul _ 42) ?_
  refine lv_bipush (v := 35) hx hb dX3_keep_59 (by decide) ?_
  refine lv_iadd hx hb dX3_keep_61 ?_
  refine tk (y := nI ((((la + 1) % 256) * 42) + 35)) (nI_add _ 35) ?_
  refine lv_iconst (v := 0) hx hb dX3_keep_62 (by decide) ?_
  refine k_ast X hE hP hD hS 2 rfl ((((la + 1) % 256) * 42) + 35) rfl (by omega) (by decide) [(h0, .inr (3, [.ref he, .int (nI ((la + 1) % 256)), .int (nI (min (ke + 1) 256))])), (hn, .inl (cA, 34, .inl f)), (he, .inl (cA, 10752, .inl (upd g_1 ((((la + 1) % 256) * 42) + 35) 0)))] rfl dX3_keep_63 (fun H locs hP hD hS => ?_)
  exact endV X hr hlocks hP hD hS dX3_keep_64 ⟨((la + 1) % 256), (min (ke + 1) 256), (upd g_1 ((((la + 1) % 256) * 42) + 35) 0), (Nat.mod_lt _ (by decide)), (Nat.min_le_right _ _), rfl⟩
set_option maxHeartbeats 4000000 in
set_option maxRecDepth 100000 in
theorem c_keepCode0 (l : Launch) (D : va_G) (cA cB : ClassId) (h0 : Nat) (he : Nat) (la : Nat) (ke : Int32) (g : Nat → Int32) (hla : la < 256) : CV l yX3_keepCode cX3_keepCode 2 none 0 0 0 0 D cA cB [.ref h0, .int 0] [(h0, .inr (3, [.ref he, .int (nI la), .int ke])), (he, .inl (cA, 10752, .inl g))] (fun W1 => ∃ (g2 : Nat → Int32), W1 = [(h0, .inr (3, [.ref he, .int (nI la), .int ke])), (he, .inl (cA, 10752, .inl g2))]) := by
  refine mkV (lv0 := [(0, .ref h0), (1, .int 0)]) (by decide) (Nat.le_of_ble_eq_true rfl) rfl ?_
  intro p e s m below meth c A ls X hr hlocks hnm hE hA hP hD hS hl
  have hx := X.1
  have hb := X.2.1
  refine lv_aload_n hx hb dX3_keepCode_0 rfl (lv_at hl 0 rfl) ?_
  refine k_get (C := RX3) (T := TX3) (N := 3) (ci := 3) (v := .ref he) X hE hP 0 rfl rfl iX3 0 (by decide) w_7 rfl dX3_keepCode_1 ?_
  refine lv_aload_n hx hb dX3_keepCode_4 rfl (lv_at hl 0 rfl) ?_
  refine k_get (C := RX3) (T := TX3) (N := 3) (ci := 3) (v := .int (nI la)) X hE hP 0 rfl rfl iX3 1 (by decide) w_161 rfl dX3_keepCode_5 ?_
  refine lv_bipush (v := 42) hx hb dX3_keepCode_8 (by decide) ?_
  refine lv_imul hx hb dX3_keepCode_10 ?_
  refine tk (y := nI (la * 42)) (pk_mul _ 42) ?_
  refine lv_bipush (v := 34) hx hb dX3_keepCode_11 (by decide) ?_
  refine lv_iadd hx hb dX3_keepCode_13 ?_
  refine tk (y := nI (la * 42 + 34)) (nI_add _ 34) ?_
  refine lv_iload_n hx hb dX3_keepCode_14 rfl (lv_at hl 1 rfl) ?_
  refine k_ast X hE hP hD hS 1 rfl (la * 42 + 34) rfl (by omega) (by decide) [(h0, .inr (3, [.ref he, .int (nI la), .int ke])), (he, .inl (cA, 10752, .inl (upd g (la * 42 + 34) 0)))] rfl dX3_keepCode_15 (fun H locs hP hD hS => ?_)
  exact endV X hr hlocks hP hD hS dX3_keepCode_16 ⟨(upd g (la * 42 + 34) 0), rfl⟩
set_option maxHeartbeats 4000000 in
set_option maxRecDepth 100000 in
theorem c_isShort0 (l : Launch) (D : va_G) (cA cB : ClassId)   : CI l yX8_isShort cX8_isShort 1 (some .boolean) 0 0 0 0 D cA cB [.int 0] [] (fun r W1 => r = 0 ∧ W1 = []) := by
  refine mkI (lv0 := [(0, .int 0)]) (by decide) (Nat.le_of_ble_eq_true rfl) rfl ?_
  intro p e s m below meth c A ls X hr hlocks hnm hE hA hP hD hS hl
  have hx := X.1
  have hb := X.2.1
  refine lv_iload_n hx hb dX8_isShort_0 rfl (lv_at hl 0 rfl) ?_
  refine lv_bipush (v := 7) hx hb dX8_isShort_1 (by decide) ?_
  refine lv_iand hx hb dX8_isShort_3 ?_
  refine tk (y := 0) (by decide) ?_
  refine lv_if_ne (tgt := 19) hx hb dX8_isShort_4 (by decide) (fun c_4 => absurd (by decide) c_4) (fun c_4 => ?_)
  refine lv_iload_n hx hb dX8_isShort_7 rfl (lv_at hl 0 rfl) ?_
  refine lv_iconst (v := 3) hx hb dX8_isShort_8 (by decide) ?_
  refine lv_ishr hx hb dX8_isShort_9 ?_
  refine tk (y := 0) (by decide) ?_
  refine lv_bipush (v := 16) hx hb dX8_isShort_10 (by decide) ?_
  refine lv_icmp_lt (tgt := 19) hx hb dX8_isShort_12 (by decide) (fun c_12 => ?_) (fun c_12 => absurd (by decide) c_12)
  refine lv_iconst (v := 0) hx hb dX8_isShort_19 (by decide) ?_
  exact endZ X hr rfl hlocks hP hD hS dX8_isShort_20 ⟨rfl, rfl⟩
set_option maxHeartbeats 4000000 in
set_option maxRecDepth 100000 in
theorem c_setNz0 (l : Launch) (D : va_G) (cA cB : ClassId) (h0 : Nat) (hn : Nat) (hs : Nat) (hd : Nat) (hp : Nat) (hc : Nat) (wy : Int32) (dn : Int32) (f : Nat → Int32) (hF : f 5 = 4 ∨ f 5 = 6) : CV l yX4_setNz cX4_setNz 2 none 0 0 0 0 D cA cB [.ref h0, .int 0] [(h0, .inr (4, [.ref hn, .ref hs, .ref hd, .ref hp, .ref hc, .int wy, .int dn])), (hn, .inl (cA, 34, .inl f))] (fun W1 => W1 = [(h0, .inr (4, [.ref hn, .ref hs, .ref hd, .ref hp, .ref hc, .int wy, .int dn])), (hn, .inl (cA, 34, .inl (upd f 5 6)))]) := by
  refine mkV (lv0 := [(0, .ref h0), (1, .int 0)]) (by decide) (Nat.le_of_ble_eq_true rfl) rfl ?_
  intro p e s m below meth c A ls X hr hlocks hnm hE hA hP hD hS hl
  have hx := X.1
  have hb := X.2.1
  refine lv_aload_n hx hb dX4_setNz_0 rfl (lv_at hl 0 rfl) ?_
  refine k_get (C := RX4) (T := TX4) (N := 7) (ci := 4) (v := .ref hn) X hE hP 0 rfl rfl iX4 0 (by decide) w_25 rfl dX4_setNz_1 ?_
  refine lv_iconst (v := 5) hx hb dX4_setNz_4 (by decide) ?_
  refine lv_aload_n hx hb dX4_setNz_5 rfl (lv_at hl 0 rfl) ?_
  refine k_get (C := RX4) (T := TX4) (N := 7) (ci := 4) (v := .ref hn) X hE hP 0 rfl rfl iX4 0 (by decide) w_25 rfl dX4_setNz_6 ?_
  refine lv_iconst (v := 5) hx hb dX4_setNz_9 (by decide) ?_
  refine k_ald (v := f 5) X hE hP 1 rfl 5 rfl (by decide) (by decide) rfl dX4_setNz_10 ?_
  refine lv_sipush (v := (-131)) hx hb dX4_setNz_11 (by decide) ?_
  refine lv_iand hx hb dX4_setNz_14 ?_
  refine lv_iload_n hx hb dX4_setNz_15 rfl (lv_at hl 1 rfl) ?_
  refine lv_sipush (v := 128) hx hb dX4_setNz_16 (by decide) ?_
  refine lv_iand hx hb dX4_setNz_19 ?_
  refine tk (y := 0) (by decide) ?_
  refine lv_ior hx hb dX4_setNz_20 ?_
  refine lv_iload_n hx hb dX4_setNz_21 rfl (lv_at hl 1 rfl) ?_
  refine lv_if_ne (tgt := 29) hx hb dX4_setNz_22 (by decide) (fun c_22 => absurd (by decide) c_22) (fun c_22 => ?_)
  refine lv_iconst (v := 2) hx hb dX4_setNz_25 (by decide) ?_
  refine lv_goto (tgt := 30) hx hb dX4_setNz_26 (by decide) ?_
  refine lv_ior hx hb dX4_setNz_30 ?_
  refine tk (y := 6) (f5_nz hF) ?_
  refine k_ast X hE hP hD hS 1 rfl 5 rfl (by decide) (by decide) [(h0, .inr (4, [.ref hn, .ref hs, .ref hd, .ref hp, .ref hc, .int wy, .int dn])), (hn, .inl (cA, 34, .inl (upd f 5 6)))] rfl dX4_setNz_31 (fun H locs hP hD hS => ?_)
  exact endV X hr hlocks hP hD hS dX4_setNz_32 rfl
set_option maxHeartbeats 4000000 in
set_option maxRecDepth 100000 in
theorem c_set00 (l : Launch) (D : va_G) (cA cB : ClassId) (h0 : Nat) (hn : Nat) (hs : Nat) (hd : Nat) (hp : Nat) (hc : Nat) (wy : Int32) (dn : Int32) (f : Nat → Int32) (hF : f 5 = 4 ∨ f 5 = 6) : CV l yX4_set cX4_set 3 none 1 21 0 0 D cA cB [.ref h0, .int 0, .int 0] [(h0, .inr (4, [.ref hn, .ref hs, .ref hd, .ref hp, .ref hc, .int wy, .int dn])), (hn, .inl (cA, 34, .inl f))] (fun W1 => W1 = [(h0, .inr (4, [.ref hn, .ref hs, .ref hd, .ref hp, .ref hc, .int wy, .int dn])), (hn, .inl (cA, 34, .inl (upd (upd f 0 0) 5 6)))]) := by
  refine mkV (lv0 := [(0, .ref h0), (1, .int 0), (2, .int 0)]) (by decide) (Nat.le_of_ble_eq_true rfl) rfl ?_
  intro p e s m below meth c A ls X hr hlocks hnm hE hA hP hD hS hl
  have hx := X.1
  have hb := X.2.1
  refine lv_aload_n hx hb dX4_set_0 rfl (lv_at hl 0 rfl) ?_
  refine k_get (C := RX4) (T := TX4) (N := 7) (ci := 4) (v := .ref hn) X hE hP 0 rfl rfl iX4 0 (by decide) w_25 rfl dX4_set_1 ?_
  refine lv_iload_n hx hb dX4_set_4 rfl (lv_at hl 1 rfl) ?_
  refine lv_iload_n hx hb dX4_set_5 rfl (lv_at hl 2 rfl) ?_
  refine lv_sipush (v := 255) hx hb dX4_set_6 (by decide) ?_
  refine lv_iand hx hb dX4_set_9 ?_
  refine tk (y := 0) (by decide) ?_
  refine k_ast X hE hP hD hS 1 rfl 0 rfl (by decide) (by decide) [(h0, .inr (4, [.ref hn, .ref hs, .ref hd, .ref hp, .ref hc, .int wy, .int dn])), (hn, .inl (cA, 34, .inl (upd f 0 0)))] rfl dX4_set_10 (fun H locs hP hD hS => ?_)
  refine lv_aload_n hx hb dX4_set_11 rfl (lv_at hl 0 rfl) ?_
  refine lv_iload_n hx hb dX4_set_12 rfl (lv_at hl 2 rfl) ?_
  refine lv_sipush (v := 255) hx hb dX4_set_13 (by decide) ?_
  refine lv_iand hx hb dX4_set_16 ?_
  refine tk (y := 0) (by decide) ?_
  refine kVv (n3 := 1) (As := [.int 0]) (rest := []) X hl.1 hE hP hD hS hA [(h0, .inr (4, [.ref hn, .ref hs, .ref hd, .ref hp, .ref hc, .int wy, .int dn])), (hn, .inl (cA, 34, .inl (upd f 0 0)))] [] [0, 1] [] rfl rfl rfl (by decide) (by decide) (by decide) (c_setNz0 l D cA cB h0 hn hs hd hp hc wy dn (upd f 0 0) hF) w_171 w_44 w_170 w_172 w_173 0 (ci := 4) (T := TX4) (N := 7) rfl rfl (by decide +kernel) rfl rfl (Nat.le_of_ble_eq_true rfl) ⟨(Nat.le_of_ble_eq_true rfl), (Nat.le_of_ble_eq_true rfl)⟩ ⟨(Nat.le_of_ble_eq_true rfl), (Nat.le_of_ble_eq_true rfl)⟩ dX4_set_17 (fun W1 H locs hw hP hD hS => ?_)
  obtain rfl := hw
  have hP : va_P D classes [(h0, .inr (4, [.ref hn, .ref hs, .ref hd, .ref hp, .ref hc, .int wy, .int dn])), (hn, .inl (cA, 34, .inl (upd (upd f 0 0) 5 6)))] H := hP
  have hD : va_D A [(h0, .inr (4, [.ref hn, .ref hs, .ref hd, .ref hp, .ref hc, .int wy, .int dn])), (hn, .inl (cA, 34, .inl (upd (upd f 0 0) 5 6)))] := hD
  exact endV X hr hlocks hP hD hS dX4_set_20 rfl
set_option maxHeartbeats 4000000 in
set_option maxRecDepth 100000 in
theorem c_useValue00 (l : Launch) (D : va_G) (cA cB : ClassId) (h0 : Nat) (hn : Nat) (hs : Nat) (hd : Nat) (hp : Nat) (hc : Nat) (wy : Int32) (dn : Int32) (f : Nat → Int32) (hF : f 5 = 4 ∨ f 5 = 6) : CV l yX4_useValue cX4_useValue 3 none 2 43 0 0 D cA cB [.ref h0, .int 0, .int 0] [(h0, .inr (4, [.ref hn, .ref hs, .ref hd, .ref hp, .ref hc, .int wy, .int dn])), (hn, .inl (cA, 34, .inl f))] (fun W1 => W1 = [(h0, .inr (4, [.ref hn, .ref hs, .ref hd, .ref hp, .ref hc, .int wy, .int dn])), (hn, .inl (cA, 34, .inl (upd (upd f 0 0) 5 6)))]) := by
  refine mkV (lv0 := [(0, .ref h0), (1, .int 0), (2, .int 0)]) (by decide) (Nat.le_of_ble_eq_true rfl) rfl ?_
  intro p e s m below meth c A ls X hr hlocks hnm hE hA hP hD hS hl
  have hx := X.1
  have hb := X.2.1
  refine lv_iload_n hx hb dX4_useValue_0 rfl (lv_at hl 1 rfl) ?_
  refine lv_tableIn (tgt := 76) (off := 75) hx hb dX4_useValue_1 (by decide) (by decide) (by decide) (by decide) ?_
  refine lv_aload_n hx hb dX4_useValue_76 rfl (lv_at hl 0 rfl) ?_
  refine lv_iconst (v := 0) hx hb dX4_useValue_77 (by decide) ?_
  refine lv_iload_n hx hb dX4_useValue_78 rfl (lv_at hl 2 rfl) ?_
  refine kVv (n3 := 2) (As := [.int 0, .int 0]) (rest := []) X hl.1 hE hP hD hS hA [(h0, .inr (4, [.ref hn, .ref hs, .ref hd, .ref hp, .ref hc, .int wy, .int dn])), (hn, .inl (cA, 34, .inl f))] [] [0, 1] [] rfl rfl rfl (by decide) (by decide) (by decide) (c_set00 l D cA cB h0 hn hs hd hp hc wy dn f hF) w_175 w_44 w_174 w_176 w_177 0 (ci := 4) (T := TX4) (N := 7) rfl rfl (by decide +kernel) rfl rfl (Nat.le_of_ble_eq_true rfl) ⟨(Nat.le_of_ble_eq_true rfl), (Nat.le_of_ble_eq_true rfl)⟩ ⟨(Nat.le_of_ble_eq_true rfl), (Nat.le_of_ble_eq_true rfl)⟩ dX4_useValue_79 (fun W1 H locs hw hP hD hS => ?_)
  obtain rfl := hw
  have hP : va_P D classes [(h0, .inr (4, [.ref hn, .ref hs, .ref hd, .ref hp, .ref hc, .int wy, .int dn])), (hn, .inl (cA, 34, .inl (upd (upd f 0 0) 5 6)))] H := hP
  have hD : va_D A [(h0, .inr (4, [.ref hn, .ref hs, .ref hd, .ref hp, .ref hc, .int wy, .int dn])), (hn, .inl (cA, 34, .inl (upd (upd f 0 0) 5 6)))] := hD
  refine lv_goto (tgt := 252) hx hb dX4_useValue_82 (by decide) ?_
  exact endV X hr hlocks hP hD hS dX4_useValue_252 rfl
set_option maxHeartbeats 4000000 in
set_option maxRecDepth 100000 in
theorem c_doCode0 (l : Launch) (D : va_G) (cA cB : ClassId) (h0 : Nat) (hn : Nat) (hs : Nat) (hd : Nat) (hp : Nat) (hc : Nat) (wy : Int32) (dn : Int32) (f : Nat → Int32) (st : Nat → Int32) (hF : f 5 = 4 ∨ f 5 = 6) (hz : ∀ j, j < 4096 → st j = 0) : CI l yX4_doCode cX4_doCode 5 (some .int) 3 65 0 0 D cA cB [.ref h0, .int 0] [(h0, .inr (4, [.ref hn, .ref hs, .ref hd, .ref hp, .ref hc, .int wy, .int dn])), (hn, .inl (cA, 34, .inl f)), (hs, .inl (cA, 4096, .inl st))] (fun r W1 => r = 2 ∧ W1 = [(h0, .inr (4, [.ref hn, .ref hs, .ref hd, .ref hp, .ref hc, .int wy, .int dn])), (hn, .inl (cA, 34, .inl (upd (upd (upd f 4 (((f 4) + 1) &&& 4095)) 0 0) 5 6))), (hs, .inl (cA, 4096, .inl st))]) := by
  refine mkI (lv0 := [(0, .ref h0), (1, .int 0)]) (by decide) (Nat.le_of_ble_eq_true rfl) rfl ?_
  intro p e s m below meth c A ls X hr hlocks hnm hE hA hP hD hS hl
  have hx := X.1
  have hb := X.2.1
  obtain ⟨t1, t2, hZ1, hT1, hZ2, hT2⟩ := hE.2.2
  refine lv_iload_n hx hb dX4_doCode_0 rfl (lv_at hl 1 rfl) ?_
  refine lv_iconst (v := 3) hx hb dX4_doCode_1 (by decide) ?_
  refine lv_ishr hx hb dX4_doCode_2 ?_
  refine tk (y := 0) (by decide) ?_
  refine lv_istore_n (lv' := [(2, .int 0), (0, .ref h0), (1, .int 0)]) hx hb dX4_doCode_3 rfl hl (by decide) rfl (fun ls hl => ?_)
  refine lv_iload_n hx hb dX4_doCode_4 rfl (lv_at hl 2 rfl) ?_
  refine lv_bipush (v := 7) hx hb dX4_doCode_5 (by decide) ?_
  refine lv_iand hx hb dX4_doCode_7 ?_
  refine tk (y := 0) (by decide) ?_
  refine lv_istore_n (lv' := [(3, .int 0), (2, .int 0), (0, .ref h0), (1, .int 0)]) hx hb dX4_doCode_8 rfl hl (by decide) rfl (fun ls hl => ?_)
  refine lv_iload_n hx hb dX4_doCode_9 rfl (lv_at hl 3 rfl) ?_
  refine kSNi (n3 := 1) (As := [.int 0]) (rest := []) X hl.1 hE hP hD hS hA [] [(h0, .inr (4, [.ref hn, .ref hs, .ref hd, .ref hp, .ref hc, .int wy, .int dn])), (hn, .inl (cA, 34, .inl f)), (hs, .inl (cA, 4096, .inl st))] [] [0, 1, 2] rfl rfl rfl (by decide) (by decide) (by decide) (c_isShort0 l D cA cB  ) w_178 w_116 nw_32 w_179 (by decide +kernel) rfl rfl (Nat.le_of_ble_eq_true rfl) ⟨(Nat.le_of_ble_eq_true rfl), (Nat.le_of_ble_eq_true rfl)⟩ ⟨(Nat.le_of_ble_eq_true rfl), (Nat.le_of_ble_eq_true rfl)⟩ dX4_doCode_10 (fun r W1 H locs hw hP hD hS => ?_)
  obtain ⟨rfl, rfl⟩ := hw
  have hP : va_P D classes [(h0, .inr (4, [.ref hn, .ref hs, .ref hd, .ref hp, .ref hc, .int wy, .int dn])), (hn, .inl (cA, 34, .inl f)), (hs, .inl (cA, 4096, .inl st))] H := hP
  have hD : va_D A [(h0, .inr (4, [.ref hn, .ref hs, .ref hd, .ref hp, .ref hc, .int wy, .int dn])), (hn, .inl (cA, 34, .inl f)), (hs, .inl (cA, 4096, .inl st))] := hD
  refine lv_if_eq (tgt := 45) hx hb dX4_doCode_13 (by decide) (fun c_13 => ?_) (fun c_13 => absurd (by decide) c_13)
  refine lv_iload_n hx hb dX4_doCode_45 rfl (lv_at hl 1 rfl) ?_
  refine lv_bipush (v := 16) hx hb dX4_doCode_46 (by decide) ?_
  refine lv_icmp_ge (tgt := 79) hx hb dX4_doCode_48 (by decide) (fun c_48 => absurd c_48 (by decide)) (fun c_48 => ?_)
  refine lv_aload_n hx hb dX4_doCode_51 rfl (lv_at hl 2 rfl) ?_
  refine lv_iload_n hx hb dX4_doCode_52 rfl (lv_at hl 1 rfl) ?_
  refine lv_iload_n hx hb dX4_doCode_53 rfl (lv_at hl 0 rfl) ?_
  refine lv_if_ne (tgt := 64) hx hb dX4_doCode_54 (by decide) (fun c_54 => absurd (by decide) c_54) (fun c_54 => ?_)
  refine lv_aload_n hx hb dX4_doCode_57 rfl (lv_at hl 2 rfl) ?_
  refine kVi (n3 := 0) (As := []) (rest := [.int 0, .ref h0]) X hl.1 hE hP hD hS hA [(h0, .inr (4, [.ref hn, .ref hs, .ref hd, .ref hp, .ref hc, .int wy, .int dn])), (hn, .inl (cA, 34, .inl f)), (hs, .inl (cA, 4096, .inl st))] [] [0, 1, 2] [] rfl rfl rfl (by decide) (by decide) (by decide) (c_takeByte l D cA cB h0 hn hs hd hp hc wy dn f st hz) w_181 w_44 w_180 w_182 w_183 0 (ci := 4) (T := TX4) (N := 7) rfl rfl (by decide +kernel) rfl rfl (Nat.le_of_ble_eq_true rfl) ⟨(Nat.le_of_ble_eq_true rfl), (Nat.le_of_ble_eq_true rfl)⟩ ⟨(Nat.le_of_ble_eq_true rfl), (Nat.le_of_ble_eq_true rfl)⟩ dX4_doCode_58 (fun r W1 H locs hw hP hD hS => ?_)
  obtain ⟨rfl, rfl⟩ := hw
  have hP : va_P D classes [(h0, .inr (4, [.ref hn, .ref hs, .ref hd, .ref hp, .ref hc, .int wy, .int dn])), (hn, .inl (cA, 34, .inl (upd f 4 (((f 4) + 1) &&& 4095)))), (hs, .inl (cA, 4096, .inl st))] H := hP
  have hD : va_D A [(h0, .inr (4, [.ref hn, .ref hs, .ref hd, .ref hp, .ref hc, .int wy, .int dn])), (hn, .inl (cA, 34, .inl (upd f 4 (((f 4) + 1) &&& 4095)))), (hs, .inl (cA, 4096, .inl st))] := hD
  refine lv_goto (tgt := 73) hx hb dX4_doCode_61 (by decide) ?_
  refine kVv (n3 := 2) (As := [.int 0, .int 0]) (rest := []) X hl.1 hE hP hD hS hA [(h0, .inr (4, [.ref hn, .ref hs, .ref hd, .ref hp, .ref hc, .int wy, .int dn])), (hn, .inl (cA, 34, .inl (upd f 4 (((f 4) + 1) &&& 4095))))] [(hs, .inl (cA, 4096, .inl st))] [0, 1] [2] rfl rfl rfl (by decide) (by decide) (by decide) (c_useValue00 l D cA cB h0 hn hs hd hp hc wy dn (upd f 4 (((f 4) + 1) &&& 4095)) hF) w_185 w_44 w_184 w_186 w_187 0 (ci := 4) (T := TX4) (N := 7) rfl rfl (by decide +kernel) rfl rfl (Nat.le_of_ble_eq_true rfl) ⟨(Nat.le_of_ble_eq_true rfl), (Nat.le_of_ble_eq_true rfl)⟩ ⟨(Nat.le_of_ble_eq_true rfl), (Nat.le_of_ble_eq_true rfl)⟩ dX4_doCode_73 (fun W1 H locs hw hP hD hS => ?_)
  obtain rfl := hw
  have hP : va_P D classes [(hs, .inl (cA, 4096, .inl st)), (h0, .inr (4, [.ref hn, .ref hs, .ref hd, .ref hp, .ref hc, .int wy, .int dn])), (hn, .inl (cA, 34, .inl (upd (upd (upd f 4 (((f 4) + 1) &&& 4095)) 0 0) 5 6)))] H := hP
  have hD : va_D A [(hs, .inl (cA, 4096, .inl st)), (h0, .inr (4, [.ref hn, .ref hs, .ref hd, .ref hp, .ref hc, .int wy, .int dn])), (hn, .inl (cA, 34, .inl (upd (upd (upd f 4 (((f 4) + 1) &&& 4095)) 0 0) 5 6)))] := hD
  refine lv_goto (tgt := 89) hx hb dX4_doCode_76 (by decide) ?_
  refine va_gets (C := "BelfryBox$Processor") (n := "WAY_CYCLES") (d := "[I") hx hb hZ1 hS X.2.2.2.1 (X.2.2.2.2 _ w_188) (fun _ h9 => h9) dX4_doCode_89 ?_
  refine lv_iload_n hx hb dX4_doCode_92 rfl (lv_at hl 0 rfl) ?_
  refine va_ti hx hb hT1 hS (vp_in_nI (n := 0) (N := 8) (by decide) (by decide)) (v := .int 2) rfl dX4_doCode_93 ?_
  refine va_gets (C := "BelfryBox$Processor") (n := "MORE_CYCLES") (d := "[I") hx hb hZ2 hS X.2.2.2.1 (X.2.2.2.2 _ w_189) (fun _ h9 => h9) dX4_doCode_94 ?_
  refine lv_iload_n hx hb dX4_doCode_97 rfl (lv_at hl 1 rfl) ?_
  refine va_ti hx hb hT2 hS (vp_in_nI (n := 0) (N := 32) (by decide) (by decide)) (v := .int 0) rfl dX4_doCode_98 ?_
  refine lv_iadd hx hb dX4_doCode_99 ?_
  refine tk (y := 2) (by decide) ?_
  have hP : va_P D classes [(h0, .inr (4, [.ref hn, .ref hs, .ref hd, .ref hp, .ref hc, .int wy, .int dn])), (hn, .inl (cA, 34, .inl (upd (upd (upd f 4 (((f 4) + 1) &&& 4095)) 0 0) 5 6))), (hs, .inl (cA, 4096, .inl st))] _ := hP.sub [1, 2, 0] rfl
  have hD : va_D A [(h0, .inr (4, [.ref hn, .ref hs, .ref hd, .ref hp, .ref hc, .int wy, .int dn])), (hn, .inl (cA, 34, .inl (upd (upd (upd f 4 (((f 4) + 1) &&& 4095)) 0 0) 5 6))), (hs, .inl (cA, 4096, .inl st))] := hD.sub [1, 2, 0] (by decide) rfl
  exact endI X hr hlocks hP hD hS dX4_doCode_100 ⟨rfl, rfl⟩
set_option maxHeartbeats 4000000 in
set_option maxRecDepth 100000 in
theorem c_passBells2 (l : Launch) (D : va_G) (cA cB : ClassId) (h0 : Nat) (hn : Nat) (h1 : Nat) (h2 : Nat) (h3 : Nat) (h4 : Nat) (f : Nat → Int32) (b20 : f 20 = 0) (b21 : f 21 = 0) (b22 : f 22 = 0) (b23 : f 23 = 0) (b24 : f 24 = 0) (b25 : f 25 = 0) (b26 : f 26 = 0) (b27 : f 27 = 0) : CV l yX1_passBells cX1_passBells 3 none 0 0 0 0 D cA cB [.ref h0, .int 2] [(h0, .inr (1, [.ref hn, .ref h1, .ref h2, .ref h3, .ref h4])), (hn, .inl (cA, 34, .inl f))] (fun W1 => W1 = [(h0, .inr (1, [.ref hn, .ref h1, .ref h2, .ref h3, .ref h4])), (hn, .inl (cA, 34, .inl f))]) := by
  refine mkV (lv0 := [(0, .ref h0), (1, .int 2)]) (by decide) (Nat.le_of_ble_eq_true rfl) rfl ?_
  intro p e s m below meth c A ls X hr hlocks hnm hE hA hP hD hS hl
  have hx := X.1
  have hb := X.2.1
  refine lv_bipush (v := 20) hx hb dX1_passBells_0 (by decide) ?_
  refine lv_istore_n (lv' := [(2, .int 20), (0, .ref h0), (1, .int 2)]) hx hb dX1_passBells_2 rfl hl (by decide) rfl (fun ls hl => ?_)
  refine lv_iload_n hx hb dX1_passBells_3 rfl (lv_at hl 0 rfl) ?_
  refine lv_bipush (v := 28) hx hb dX1_passBells_4 (by decide) ?_
  refine lv_icmp_ge (tgt := 65) hx hb dX1_passBells_6 (by decide) (fun c_6 => absurd c_6 (by decide)) (fun c_6 => ?_)
  refine lv_aload_n hx hb dX1_passBells_9 rfl (lv_at hl 1 rfl) ?_
  refine k_get (C := RX1) (T := TX1) (N := 5) (ci := 1) (v := .ref hn) X hE hP 0 rfl rfl iX1 0 (by decide) w_22 rfl dX1_passBells_10 ?_
  refine lv_iload_n hx hb dX1_passBells_13 rfl (lv_at hl 0 rfl) ?_
  refine k_ald (v := 0) X hE hP 1 rfl 20 rfl (by decide) (by decide) b20 dX1_passBells_14 ?_
  refine lv_iload_n hx hb dX1_passBells_15 rfl (lv_at hl 2 rfl) ?_
  refine lv_icmp_le (tgt := 32) hx hb dX1_passBells_16 (by decide) (fun c_16 => ?_) (fun c_16 => absurd (by decide) c_16)
  refine lv_aload_n hx hb dX1_passBells_32 rfl (lv_at hl 1 rfl) ?_
  refine k_get (C := RX1) (T := TX1) (N := 5) (ci := 1) (v := .ref hn) X hE hP 0 rfl rfl iX1 0 (by decide) w_22 rfl dX1_passBells_33 ?_
  refine lv_iload_n hx hb dX1_passBells_36 rfl (lv_at hl 0 rfl) ?_
  refine k_ald (v := 0) X hE hP 1 rfl 20 rfl (by decide) (by decide) b20 dX1_passBells_37 ?_
  refine lv_if_le (tgt := 59) hx hb dX1_passBells_38 (by decide) (fun c_38 => ?_) (fun c_38 => absurd (by decide) c_38)
  refine lv_iinc (v := 21) (lv' := [(2, .int 21), (0, .ref h0), (1, .int 2)]) hx hb dX1_passBells_59 hl (k := 0) rfl (by decide) (by decide) rfl (fun ls hl => ?_)
  refine lv_goto (tgt := 3) hx hb dX1_passBells_62 (by decide) ?_
  refine lv_iload_n hx hb dX1_passBells_3 rfl (lv_at hl 0 rfl) ?_
  refine lv_bipush (v := 28) hx hb dX1_passBells_4 (by decide) ?_
  refine lv_icmp_ge (tgt := 65) hx hb dX1_passBells_6 (by decide) (fun c_6_1 => absurd c_6_1 (by decide)) (fun c_6_1 => ?_)
  refine lv_aload_n hx hb dX1_passBells_9 rfl (lv_at hl 1 rfl) ?_
  refine k_get (C := RX1) (T := TX1) (N := 5) (ci := 1) (v := .ref hn) X hE hP 0 rfl rfl iX1 0 (by decide) w_22 rfl dX1_passBells_10 ?_
  refine lv_iload_n hx hb dX1_passBells_13 rfl (lv_at hl 0 rfl) ?_
  refine k_ald (v := 0) X hE hP 1 rfl 21 rfl (by decide) (by decide) b21 dX1_passBells_14 ?_
  refine lv_iload_n hx hb dX1_passBells_15 rfl (lv_at hl 2 rfl) ?_
  refine lv_icmp_le (tgt := 32) hx hb dX1_passBells_16 (by decide) (fun c_16_2 => ?_) (fun c_16_2 => absurd (by decide) c_16_2)
  refine lv_aload_n hx hb dX1_passBells_32 rfl (lv_at hl 1 rfl) ?_
  refine k_get (C := RX1) (T := TX1) (N := 5) (ci := 1) (v := .ref hn) X hE hP 0 rfl rfl iX1 0 (by decide) w_22 rfl dX1_passBells_33 ?_
  refine lv_iload_n hx hb dX1_passBells_36 rfl (lv_at hl 0 rfl) ?_
  refine k_ald (v := 0) X hE hP 1 rfl 21 rfl (by decide) (by decide) b21 dX1_passBells_37 ?_
  refine lv_if_le (tgt := 59) hx hb dX1_passBells_38 (by decide) (fun c_38_3 => ?_) (fun c_38_3 => absurd (by decide) c_38_3)
  refine lv_iinc (v := 22) (lv' := [(2, .int 22), (0, .ref h0), (1, .int 2)]) hx hb dX1_passBells_59 hl (k := 0) rfl (by decide) (by decide) rfl (fun ls hl => ?_)
  refine lv_goto (tgt := 3) hx hb dX1_passBells_62 (by decide) ?_
  refine lv_iload_n hx hb dX1_passBells_3 rfl (lv_at hl 0 rfl) ?_
  refine lv_bipush (v := 28) hx hb dX1_passBells_4 (by decide) ?_
  refine lv_icmp_ge (tgt := 65) hx hb dX1_passBells_6 (by decide) (fun c_6_4 => absurd c_6_4 (by decide)) (fun c_6_4 => ?_)
  refine lv_aload_n hx hb dX1_passBells_9 rfl (lv_at hl 1 rfl) ?_
  refine k_get (C := RX1) (T := TX1) (N := 5) (ci := 1) (v := .ref hn) X hE hP 0 rfl rfl iX1 0 (by decide) w_22 rfl dX1_passBells_10 ?_
  refine lv_iload_n hx hb dX1_passBells_13 rfl (lv_at hl 0 rfl) ?_
  refine k_ald (v := 0) X hE hP 1 rfl 22 rfl (by decide) (by decide) b22 dX1_passBells_14 ?_
  refine lv_iload_n hx hb dX1_passBells_15 rfl (lv_at hl 2 rfl) ?_
  refine lv_icmp_le (tgt := 32) hx hb dX1_passBells_16 (by decide) (fun c_16_5 => ?_) (fun c_16_5 => absurd (by decide) c_16_5)
  refine lv_aload_n hx hb dX1_passBells_32 rfl (lv_at hl 1 rfl) ?_
  refine k_get (C := RX1) (T := TX1) (N := 5) (ci := 1) (v := .ref hn) X hE hP 0 rfl rfl iX1 0 (by decide) w_22 rfl dX1_passBells_33 ?_
  refine lv_iload_n hx hb dX1_passBells_36 rfl (lv_at hl 0 rfl) ?_
  refine k_ald (v := 0) X hE hP 1 rfl 22 rfl (by decide) (by decide) b22 dX1_passBells_37 ?_
  refine lv_if_le (tgt := 59) hx hb dX1_passBells_38 (by decide) (fun c_38_6 => ?_) (fun c_38_6 => absurd (by decide) c_38_6)
  refine lv_iinc (v := 23) (lv' := [(2, .int 23), (0, .ref h0), (1, .int 2)]) hx hb dX1_passBells_59 hl (k := 0) rfl (by decide) (by decide) rfl (fun ls hl => ?_)
  refine lv_goto (tgt := 3) hx hb dX1_passBells_62 (by decide) ?_
  refine lv_iload_n hx hb dX1_passBells_3 rfl (lv_at hl 0 rfl) ?_
  refine lv_bipush (v := 28) hx hb dX1_passBells_4 (by decide) ?_
  refine lv_icmp_ge (tgt := 65) hx hb dX1_passBells_6 (by decide) (fun c_6_7 => absurd c_6_7 (by decide)) (fun c_6_7 => ?_)
  refine lv_aload_n hx hb dX1_passBells_9 rfl (lv_at hl 1 rfl) ?_
  refine k_get (C := RX1) (T := TX1) (N := 5) (ci := 1) (v := .ref hn) X hE hP 0 rfl rfl iX1 0 (by decide) w_22 rfl dX1_passBells_10 ?_
  refine lv_iload_n hx hb dX1_passBells_13 rfl (lv_at hl 0 rfl) ?_
  refine k_ald (v := 0) X hE hP 1 rfl 23 rfl (by decide) (by decide) b23 dX1_passBells_14 ?_
  refine lv_iload_n hx hb dX1_passBells_15 rfl (lv_at hl 2 rfl) ?_
  refine lv_icmp_le (tgt := 32) hx hb dX1_passBells_16 (by decide) (fun c_16_8 => ?_) (fun c_16_8 => absurd (by decide) c_16_8)
  refine lv_aload_n hx hb dX1_passBells_32 rfl (lv_at hl 1 rfl) ?_
  refine k_get (C := RX1) (T := TX1) (N := 5) (ci := 1) (v := .ref hn) X hE hP 0 rfl rfl iX1 0 (by decide) w_22 rfl dX1_passBells_33 ?_
  refine lv_iload_n hx hb dX1_passBells_36 rfl (lv_at hl 0 rfl) ?_
  refine k_ald (v := 0) X hE hP 1 rfl 23 rfl (by decide) (by decide) b23 dX1_passBells_37 ?_
  refine lv_if_le (tgt := 59) hx hb dX1_passBells_38 (by decide) (fun c_38_9 => ?_) (fun c_38_9 => absurd (by decide) c_38_9)
  refine lv_iinc (v := 24) (lv' := [(2, .int 24), (0, .ref h0), (1, .int 2)]) hx hb dX1_passBells_59 hl (k := 0) rfl (by decide) (by decide) rfl (fun ls hl => ?_)
  refine lv_goto (tgt := 3) hx hb dX1_passBells_62 (by decide) ?_
  refine lv_iload_n hx hb dX1_passBells_3 rfl (lv_at hl 0 rfl) ?_
  refine lv_bipush (v := 28) hx hb dX1_passBells_4 (by decide) ?_
  refine lv_icmp_ge (tgt := 65) hx hb dX1_passBells_6 (by decide) (fun c_6_10 => absurd c_6_10 (by decide)) (fun c_6_10 => ?_)
  refine lv_aload_n hx hb dX1_passBells_9 rfl (lv_at hl 1 rfl) ?_
  refine k_get (C := RX1) (T := TX1) (N := 5) (ci := 1) (v := .ref hn) X hE hP 0 rfl rfl iX1 0 (by decide) w_22 rfl dX1_passBells_10 ?_
  refine lv_iload_n hx hb dX1_passBells_13 rfl (lv_at hl 0 rfl) ?_
  refine k_ald (v := 0) X hE hP 1 rfl 24 rfl (by decide) (by decide) b24 dX1_passBells_14 ?_
  refine lv_iload_n hx hb dX1_passBells_15 rfl (lv_at hl 2 rfl) ?_
  refine lv_icmp_le (tgt := 32) hx hb dX1_passBells_16 (by decide) (fun c_16_11 => ?_) (fun c_16_11 => absurd (by decide) c_16_11)
  refine lv_aload_n hx hb dX1_passBells_32 rfl (lv_at hl 1 rfl) ?_
  refine k_get (C := RX1) (T := TX1) (N := 5) (ci := 1) (v := .ref hn) X hE hP 0 rfl rfl iX1 0 (by decide) w_22 rfl dX1_passBells_33 ?_
  refine lv_iload_n hx hb dX1_passBells_36 rfl (lv_at hl 0 rfl) ?_
  refine k_ald (v := 0) X hE hP 1 rfl 24 rfl (by decide) (by decide) b24 dX1_passBells_37 ?_
  refine lv_if_le (tgt := 59) hx hb dX1_passBells_38 (by decide) (fun c_38_12 => ?_) (fun c_38_12 => absurd (by decide) c_38_12)
  refine lv_iinc (v := 25) (lv' := [(2, .int 25), (0, .ref h0), (1, .int 2)]) hx hb dX1_passBells_59 hl (k := 0) rfl (by decide) (by decide) rfl (fun ls hl => ?_)
  refine lv_goto (tgt := 3) hx hb dX1_passBells_62 (by decide) ?_
  refine lv_iload_n hx hb dX1_passBells_3 rfl (lv_at hl 0 rfl) ?_
  refine lv_bipush (v := 28) hx hb dX1_passBells_4 (by decide) ?_
  refine lv_icmp_ge (tgt := 65) hx hb dX1_passBells_6 (by decide) (fun c_6_13 => absurd c_6_13 (by decide)) (fun c_6_13 => ?_)
  refine lv_aload_n hx hb dX1_passBells_9 rfl (lv_at hl 1 rfl) ?_
  refine k_get (C := RX1) (T := TX1) (N := 5) (ci := 1) (v := .ref hn) X hE hP 0 rfl rfl iX1 0 (by decide) w_22 rfl dX1_passBells_10 ?_
  refine lv_iload_n hx hb dX1_passBells_13 rfl (lv_at hl 0 rfl) ?_
  refine k_ald (v := 0) X hE hP 1 rfl 25 rfl (by decide) (by decide) b25 dX1_passBells_14 ?_
  refine lv_iload_n hx hb dX1_passBells_15 rfl (lv_at hl 2 rfl) ?_
  refine lv_icmp_le (tgt := 32) hx hb dX1_passBells_16 (by decide) (fun c_16_14 => ?_) (fun c_16_14 => absurd (by decide) c_16_14)
  refine lv_aload_n hx hb dX1_passBells_32 rfl (lv_at hl 1 rfl) ?_
  refine k_get (C := RX1) (T := TX1) (N := 5) (ci := 1) (v := .ref hn) X hE hP 0 rfl rfl iX1 0 (by decide) w_22 rfl dX1_passBells_33 ?_
  refine lv_iload_n hx hb dX1_passBells_36 rfl (lv_at hl 0 rfl) ?_
  refine k_ald (v := 0) X hE hP 1 rfl 25 rfl (by decide) (by decide) b25 dX1_passBells_37 ?_
  refine lv_if_le (tgt := 59) hx hb dX1_passBells_38 (by decide) (fun c_38_15 => ?_) (fun c_38_15 => absurd (by decide) c_38_15)
  refine lv_iinc (v := 26) (lv' := [(2, .int 26), (0, .ref h0), (1, .int 2)]) hx hb dX1_passBells_59 hl (k := 0) rfl (by decide) (by decide) rfl (fun ls hl => ?_)
  refine lv_goto (tgt := 3) hx hb dX1_passBells_62 (by decide) ?_
  refine lv_iload_n hx hb dX1_passBells_3 rfl (lv_at hl 0 rfl) ?_
  refine lv_bipush (v := 28) hx hb dX1_passBells_4 (by decide) ?_
  refine lv_icmp_ge (tgt := 65) hx hb dX1_passBells_6 (by decide) (fun c_6_16 => absurd c_6_16 (by decide)) (fun c_6_16 => ?_)
  refine lv_aload_n hx hb dX1_passBells_9 rfl (lv_at hl 1 rfl) ?_
  refine k_get (C := RX1) (T := TX1) (N := 5) (ci := 1) (v := .ref hn) X hE hP 0 rfl rfl iX1 0 (by decide) w_22 rfl dX1_passBells_10 ?_
  refine lv_iload_n hx hb dX1_passBells_13 rfl (lv_at hl 0 rfl) ?_
  refine k_ald (v := 0) X hE hP 1 rfl 26 rfl (by decide) (by decide) b26 dX1_passBells_14 ?_
  refine lv_iload_n hx hb dX1_passBells_15 rfl (lv_at hl 2 rfl) ?_
  refine lv_icmp_le (tgt := 32) hx hb dX1_passBells_16 (by decide) (fun c_16_17 => ?_) (fun c_16_17 => absurd (by decide) c_16_17)
  refine lv_aload_n hx hb dX1_passBells_32 rfl (lv_at hl 1 rfl) ?_
  refine k_get (C := RX1) (T := TX1) (N := 5) (ci := 1) (v := .ref hn) X hE hP 0 rfl rfl iX1 0 (by decide) w_22 rfl dX1_passBells_33 ?_
  refine lv_iload_n hx hb dX1_passBells_36 rfl (lv_at hl 0 rfl) ?_
  refine k_ald (v := 0) X hE hP 1 rfl 26 rfl (by decide) (by decide) b26 dX1_passBells_37 ?_
  refine lv_if_le (tgt := 59) hx hb dX1_passBells_38 (by decide) (fun c_38_18 => ?_) (fun c_38_18 => absurd (by decide) c_38_18)
  refine lv_iinc (v := 27) (lv' := [(2, .int 27), (0, .ref h0), (1, .int 2)]) hx hb dX1_passBells_59 hl (k := 0) rfl (by decide) (by decide) rfl (fun ls hl => ?_)
  refine lv_goto (tgt := 3) hx hb dX1_passBells_62 (by decide) ?_
  refine lv_iload_n hx hb dX1_passBells_3 rfl (lv_at hl 0 rfl) ?_
  refine lv_bipush (v := 28) hx hb dX1_passBells_4 (by decide) ?_
  refine lv_icmp_ge (tgt := 65) hx hb dX1_passBells_6 (by decide) (fun c_6_19 => absurd c_6_19 (by decide)) (fun c_6_19 => ?_)
  refine lv_aload_n hx hb dX1_passBells_9 rfl (lv_at hl 1 rfl) ?_
  refine k_get (C := RX1) (T := TX1) (N := 5) (ci := 1) (v := .ref hn) X hE hP 0 rfl rfl iX1 0 (by decide) w_22 rfl dX1_passBells_10 ?_
  refine lv_iload_n hx hb dX1_passBells_13 rfl (lv_at hl 0 rfl) ?_
  refine k_ald (v := 0) X hE hP 1 rfl 27 rfl (by decide) (by decide) b27 dX1_passBells_14 ?_
  refine lv_iload_n hx hb dX1_passBells_15 rfl (lv_at hl 2 rfl) ?_
  refine lv_icmp_le (tgt := 32) hx hb dX1_passBells_16 (by decide) (fun c_16_20 => ?_) (fun c_16_20 => absurd (by decide) c_16_20)
  refine lv_aload_n hx hb dX1_passBells_32 rfl (lv_at hl 1 rfl) ?_
  refine k_get (C := RX1) (T := TX1) (N := 5) (ci := 1) (v := .ref hn) X hE hP 0 rfl rfl iX1 0 (by decide) w_22 rfl dX1_passBells_33 ?_
  refine lv_iload_n hx hb dX1_passBells_36 rfl (lv_at hl 0 rfl) ?_
  refine k_ald (v := 0) X hE hP 1 rfl 27 rfl (by decide) (by decide) b27 dX1_passBells_37 ?_
  refine lv_if_le (tgt := 59) hx hb dX1_passBells_38 (by decide) (fun c_38_21 => ?_) (fun c_38_21 => absurd (by decide) c_38_21)
  refine lv_iinc (v := 28) (lv' := [(2, .int 28), (0, .ref h0), (1, .int 2)]) hx hb dX1_passBells_59 hl (k := 0) rfl (by decide) (by decide) rfl (fun ls hl => ?_)
  refine lv_goto (tgt := 3) hx hb dX1_passBells_62 (by decide) ?_
  refine lv_iload_n hx hb dX1_passBells_3 rfl (lv_at hl 0 rfl) ?_
  refine lv_bipush (v := 28) hx hb dX1_passBells_4 (by decide) ?_
  refine lv_icmp_ge (tgt := 65) hx hb dX1_passBells_6 (by decide) (fun c_6_22 => ?_) (fun c_6_22 => absurd (by decide) c_6_22)
  exact endV X hr hlocks hP hD hS dX1_passBells_65 rfl
set_option maxHeartbeats 4000000 in
set_option maxRecDepth 100000 in
theorem c_pass2 (l : Launch) (D : va_G) (cA cB : ClassId) (h0 : Nat) (hn : Nat) (h1 : Nat) (h2 : Nat) (h3 : Nat) (h4 : Nat) (f : Nat → Int32) (hI : InvN f) : CI l yX1_pass cX1_pass 3 (some .boolean) 1 22 0 0 D cA cB [.ref h0, .int 2] [(h0, .inr (1, [.ref hn, .ref h1, .ref h2, .ref h3, .ref h4])), (hn, .inl (cA, 34, .inl f))] (fun r W1 => r = 0 ∧ W1 = [(h0, .inr (1, [.ref hn, .ref h1, .ref h2, .ref h3, .ref h4])), (hn, .inl (cA, 34, .inl (upd (upd f 7 ((f 7) + 2)) 17 0)))]) := by
  refine mkI (lv0 := [(0, .ref h0), (1, .int 2)]) (by decide) (Nat.le_of_ble_eq_true rfl) rfl ?_
  intro p e s m below meth c A ls X hr hlocks hnm hE hA hP hD hS hl
  have hx := X.1
  have hb := X.2.1
  refine lv_aload_n hx hb dX1_pass_0 rfl (lv_at hl 0 rfl) ?_
  refine k_get (C := RX1) (T := TX1) (N := 5) (ci := 1) (v := .ref hn) X hE hP 0 rfl rfl iX1 0 (by decide) w_22 rfl dX1_pass_1 ?_
  refine lv_bipush (v := 7) hx hb dX1_pass_4 (by decide) ?_
  refine lv_dup2_11 hx hb dX1_pass_6 rfl rfl ?_
  refine k_ald (v := f 7) X hE hP 1 rfl 7 rfl (by decide) (by decide) rfl dX1_pass_7 ?_
  refine lv_iload_n hx hb dX1_pass_8 rfl (lv_at hl 1 rfl) ?_
  refine lv_iadd hx hb dX1_pass_9 ?_
  refine k_ast X hE hP hD hS 1 rfl 7 rfl (by decide) (by decide) [(h0, .inr (1, [.ref hn, .ref h1, .ref h2, .ref h3, .ref h4])), (hn, .inl (cA, 34, .inl (upd f 7 ((f 7) + 2))))] rfl dX1_pass_10 (fun H locs hP hD hS => ?_)
  refine lv_aload_n hx hb dX1_pass_11 rfl (lv_at hl 0 rfl) ?_
  refine k_get (C := RX1) (T := TX1) (N := 5) (ci := 1) (v := .ref hn) X hE hP 0 rfl rfl iX1 0 (by decide) w_22 rfl dX1_pass_12 ?_
  refine lv_bipush (v := 10) hx hb dX1_pass_15 (by decide) ?_
  refine k_ald (v := 0) X hE hP 1 rfl 10 rfl (by decide) (by decide) hI.2.1 dX1_pass_17 ?_
  refine lv_if_eq (tgt := 26) hx hb dX1_pass_18 (by decide) (fun c_18 => ?_) (fun c_18 => absurd (by decide) c_18)
  refine lv_aload_n hx hb dX1_pass_26 rfl (lv_at hl 0 rfl) ?_
  refine k_get (C := RX1) (T := TX1) (N := 5) (ci := 1) (v := .ref hn) X hE hP 0 rfl rfl iX1 0 (by decide) w_22 rfl dX1_pass_27 ?_
  refine lv_bipush (v := 11) hx hb dX1_pass_30 (by decide) ?_
  refine k_ald (v := 0) X hE hP 1 rfl 11 rfl (by decide) (by decide) hI.2.2.1 dX1_pass_32 ?_
  refine lv_if_eq (tgt := 41) hx hb dX1_pass_33 (by decide) (fun c_33 => ?_) (fun c_33 => absurd (by decide) c_33)
  refine lv_aload_n hx hb dX1_pass_41 rfl (lv_at hl 0 rfl) ?_
  refine lv_iload_n hx hb dX1_pass_42 rfl (lv_at hl 1 rfl) ?_
  refine kVv (n3 := 1) (As := [.int 2]) (rest := []) X hl.1 hE hP hD hS hA [(h0, .inr (1, [.ref hn, .ref h1, .ref h2, .ref h3, .ref h4])), (hn, .inl (cA, 34, .inl (upd f 7 ((f 7) + 2))))] [] [0, 1] [] rfl rfl rfl (by decide) (by decide) (by decide) (c_passBells2 l D cA cB h0 hn h1 h2 h3 h4 (upd f 7 ((f 7) + 2)) hI.2.2.2.2.2.1 hI.2.2.2.2.2.2.1 hI.2.2.2.2.2.2.2.1 hI.2.2.2.2.2.2.2.2.1 hI.2.2.2.2.2.2.2.2.2.1 hI.2.2.2.2.2.2.2.2.2.2.1 hI.2.2.2.2.2.2.2.2.2.2.2.1 hI.2.2.2.2.2.2.2.2.2.2.2.2) w_191 w_69 w_190 w_192 w_193 0 (ci := 1) (T := TX1) (N := 5) rfl rfl (by decide +kernel) rfl rfl (Nat.le_of_ble_eq_true rfl) ⟨(Nat.le_of_ble_eq_true rfl), (Nat.le_of_ble_eq_true rfl)⟩ ⟨(Nat.le_of_ble_eq_true rfl), (Nat.le_of_ble_eq_true rfl)⟩ dX1_pass_43 (fun W1 H locs hw hP hD hS => ?_)
  obtain rfl := hw
  have hP : va_P D classes [(h0, .inr (1, [.ref hn, .ref h1, .ref h2, .ref h3, .ref h4])), (hn, .inl (cA, 34, .inl (upd f 7 ((f 7) + 2))))] H := hP
  have hD : va_D A [(h0, .inr (1, [.ref hn, .ref h1, .ref h2, .ref h3, .ref h4])), (hn, .inl (cA, 34, .inl (upd f 7 ((f 7) + 2))))] := hD
  refine lv_aload_n hx hb dX1_pass_46 rfl (lv_at hl 0 rfl) ?_
  refine k_get (C := RX1) (T := TX1) (N := 5) (ci := 1) (v := .ref hn) X hE hP 0 rfl rfl iX1 0 (by decide) w_22 rfl dX1_pass_47 ?_
  refine lv_bipush (v := 17) hx hb dX1_pass_50 (by decide) ?_
  refine k_ald (v := 0) X hE hP 1 rfl 17 rfl (by decide) (by decide) hI.2.2.2.1 dX1_pass_52 ?_
  refine lv_if_le (tgt := 71) hx hb dX1_pass_53 (by decide) (fun c_53 => ?_) (fun c_53 => absurd (by decide) c_53)
  refine lv_iconst (v := 0) hx hb dX1_pass_71 (by decide) ?_
  refine lv_istore_n (lv' := [(2, .int 0), (0, .ref h0), (1, .int 2)]) hx hb dX1_pass_72 rfl hl (by decide) rfl (fun ls hl => ?_)
  refine lv_aload_n hx hb dX1_pass_73 rfl (lv_at hl 1 rfl) ?_
  refine k_get (C := RX1) (T := TX1) (N := 5) (ci := 1) (v := .ref hn) X hE hP 0 rfl rfl iX1 0 (by decide) w_22 rfl dX1_pass_74 ?_
  refine lv_bipush (v := 17) hx hb dX1_pass_77 (by decide) ?_
  refine lv_iconst (v := 0) hx hb dX1_pass_79 (by decide) ?_
  refine lv_aload_n hx hb dX1_pass_80 rfl (lv_at hl 1 rfl) ?_
  refine k_get (C := RX1) (T := TX1) (N := 5) (ci := 1) (v := .ref hn) X hE hP 0 rfl rfl iX1 0 (by decide) w_22 rfl dX1_pass_81 ?_
  refine lv_bipush (v := 17) hx hb dX1_pass_84 (by decide) ?_
  refine k_ald (v := 0) X hE hP 1 rfl 17 rfl (by decide) (by decide) hI.2.2.2.1 dX1_pass_86 ?_
  refine lv_iload_n hx hb dX1_pass_87 rfl (lv_at hl 2 rfl) ?_
  refine lv_isub hx hb dX1_pass_88 ?_
  refine tk (y := (-2)) (by decide) ?_
  refine va_mmax hx hb (X.2.2.1.trans hl.1.symm) X.2.2.2.1 (X.2.2.2.2 _ w_194) (X.2.2.2.2 _ w_195) (X.2.2.2.2 _ w_164) (X.2.2.2.2 _ w_196) (Nat.le_of_ble_eq_true rfl) (Nat.le_of_ble_eq_true rfl) (Nat.le_of_ble_eq_true rfl) (Nat.le_of_ble_eq_true rfl) dX1_pass_89 ?_
  refine tk (y := 0) (by decide) ?_
  refine k_ast X hE hP hD hS 1 rfl 17 rfl (by decide) (by decide) [(h0, .inr (1, [.ref hn, .ref h1, .ref h2, .ref h3, .ref h4])), (hn, .inl (cA, 34, .inl (upd (upd f 7 ((f 7) + 2)) 17 0)))] rfl dX1_pass_92 (fun H locs hP hD hS => ?_)
  refine lv_iload_n hx hb dX1_pass_93 rfl (lv_at hl 0 rfl) ?_
  exact endZ X hr rfl hlocks hP hD hS dX1_pass_94 ⟨rfl, rfl⟩
set_option maxHeartbeats 4000000 in
set_option maxRecDepth 100000 in
theorem c_doStep0 (l : Launch) (D : va_G) (cA cB : ClassId) (h0 : Nat) (hn : Nat) (hs : Nat) (hd : Nat) (hp : Nat) (hc : Nat) (wy : Int32) (dn : Int32) (he : Nat) (h1 : Nat) (h2 : Nat) (h3 : Nat) (h4 : Nat) (f : Nat → Int32) (st : Nat → Int32) (g : Nat → Int32) (ct : Nat → Int32) (la : Nat) (ke : Nat) (hI : InvN f) (hz : ∀ j, j < 4096 → st j = 0) (hla : la < 256) (hke : ke ≤ 256) : CV l yX4_doStep cX4_doStep 3 none 4 89 0 0 D cA cB [.ref h0] [(h0, .inr (4, [.ref hn, .ref hs, .ref hd, .ref hp, .ref hc, .int wy, .int dn])), (hn, .inl (cA, 34, .inl f)), (hs, .inl (cA, 4096, .inl st)), (hp, .inr (3, [.ref he, .int (nI la), .int (nI ke)])), (he, .inl (cA, 10752, .inl g)), (hc, .inl (cA, 257, .inl ct)), (hd, .inr (1, [.ref hn, .ref h1, .ref h2, .ref h3, .ref h4]))] (fun W1 => ∃ (f2 : Nat → Int32) (la2 : Nat) (ke2 : Nat) (g2 : Nat → Int32) (ct2 : Nat → Int32), (InvN f2) ∧ (la2 < 256) ∧ (ke2 ≤ 256) ∧ W1 = [(h0, .inr (4, [.ref hn, .ref hs, .ref hd, .ref hp, .ref hc, .int wy, .int dn])), (hn, .inl (cA, 34, .inl f2)), (hs, .inl (cA, 4096, .inl st)), (hp, .inr (3, [.ref he, .int (nI la2), .int (nI ke2)])), (he, .inl (cA, 10752, .inl g2)), (hc, .inl (cA, 257, .inl ct2)), (hd, .inr (1, [.ref hn, .ref h1, .ref h2, .ref h3, .ref h4]))]) := by
  refine mkV (lv0 := [(0, .ref h0)]) (by decide) (Nat.le_of_ble_eq_true rfl) rfl ?_
  intro p e s m below meth c A ls X hr hlocks hnm hE hA hP hD hS hl
  have hx := X.1
  have hb := X.2.1
  refine lv_aload_n hx hb dX4_doStep_0 rfl (lv_at hl 0 rfl) ?_
  refine k_get (C := RX4) (T := TX4) (N := 7) (ci := 4) (v := .ref hp) X hE hP 0 rfl rfl iX4 3 (by decide) w_28 rfl dX4_doStep_1 ?_
  refine lv_aload_n hx hb dX4_doStep_4 rfl (lv_at hl 0 rfl) ?_
  refine k_get (C := RX4) (T := TX4) (N := 7) (ci := 4) (v := .ref hn) X hE hP 0 rfl rfl iX4 0 (by decide) w_25 rfl dX4_doStep_5 ?_
  refine kVv (n3 := 1) (As := [.ref hn]) (rest := []) X hl.1 hE hP hD hS hA [(hp, .inr (3, [.ref he, .int (nI la), .int (nI ke)])), (hn, .inl (cA, 34, .inl f)), (he, .inl (cA, 10752, .inl g))] [(h0, .inr (4, [.ref hn, .ref hs, .ref hd, .ref hp, .ref hc, .int wy, .int dn])), (hs, .inl (cA, 4096, .inl st)), (hc, .inl (cA, 257, .inl ct)), (hd, .inr (1, [.ref hn, .ref h1, .ref h2, .ref h3, .ref h4]))] [3, 1, 4] [0, 2, 5, 6] rfl rfl rfl (by decide) (by decide) (by decide) (c_keep l D cA cB hp he hn la ke f g hla hke) w_198 w_61 w_197 w_199 w_200 0 (ci := 3) (T := TX3) (N := 3) rfl rfl (by decide +kernel) rfl rfl (Nat.le_of_ble_eq_true rfl) ⟨(Nat.le_of_ble_eq_true rfl), (Nat.le_of_ble_eq_true rfl)⟩ ⟨(Nat.le_of_ble_eq_true rfl), (Nat.le_of_ble_eq_true rfl)⟩ dX4_doStep_8 (fun W1 H locs hw hP hD hS => ?_)
  obtain ⟨la2_1, ke2_2, g2_3, hf_4, hf_5, rfl⟩ := hw
  have hP : va_P D classes [(h0, .inr (4, [.ref hn, .ref hs, .ref hd, .ref hp, .ref hc, .int wy, .int dn])), (hs, .inl (cA, 4096, .inl st)), (hc, .inl (cA, 257, .inl ct)), (hd, .inr (1, [.ref hn, .ref h1, .ref h2, .ref h3, .ref h4])), (hp, .inr (3, [.ref he, .int (nI la2_1), .int (nI ke2_2)])), (hn, .inl (cA, 34, .inl f)), (he, .inl (cA, 10752, .inl g2_3))] H := hP
  have hD : va_D A [(h0, .inr (4, [.ref hn, .ref hs, .ref hd, .ref hp, .ref hc, .int wy, .int dn])), (hs, .inl (cA, 4096, .inl st)), (hc, .inl (cA, 257, .inl ct)), (hd, .inr (1, [.ref hn, .ref h1, .ref h2, .ref h3, .ref h4])), (hp, .inr (3, [.ref he, .int (nI la2_1), .int (nI ke2_2)])), (hn, .inl (cA, 34, .inl f)), (he, .inl (cA, 10752, .inl g2_3))] := hD
  refine lv_aload_n hx hb dX4_doStep_11 rfl (lv_at hl 0 rfl) ?_
  refine kVi (n3 := 0) (As := []) (rest := []) X hl.1 hE hP hD hS hA [(h0, .inr (4, [.ref hn, .ref hs, .ref hd, .ref hp, .ref hc, .int wy, .int dn])), (hn, .inl (cA, 34, .inl f))] [(hs, .inl (cA, 4096, .inl st)), (hc, .inl (cA, 257, .inl ct)), (hd, .inr (1, [.ref hn, .ref h1, .ref h2, .ref h3, .ref h4])), (hp, .inr (3, [.ref he, .int (nI la2_1), .int (nI ke2_2)])), (he, .inl (cA, 10752, .inl g2_3))] [0, 5] [1, 2, 3, 4, 6] rfl rfl rfl (by decide) (by decide) (by decide) (c_interruptComes l D cA cB h0 hn hs hd hp hc wy dn f hI) w_202 w_44 w_201 w_203 w_204 0 (ci := 4) (T := TX4) (N := 7) rfl rfl (by decide +kernel) rfl rfl (Nat.le_of_ble_eq_true rfl) ⟨(Nat.le_of_ble_eq_true rfl), (Nat.le_of_ble_eq_true rfl)⟩ ⟨(Nat.le_of_ble_eq_true rfl), (Nat.le_of_ble_eq_true rfl)⟩ dX4_doStep_12 (fun r W1 H locs hw hP hD hS => ?_)
  obtain ⟨rfl, rfl⟩ := hw
  have hP : va_P D classes [(hs, .inl (cA, 4096, .inl st)), (hc, .inl (cA, 257, .inl ct)), (hd, .inr (1, [.ref hn, .ref h1, .ref h2, .ref h3, .ref h4])), (hp, .inr (3, [.ref he, .int (nI la2_1), .int (nI ke2_2)])), (he, .inl (cA, 10752, .inl g2_3)), (h0, .inr (4, [.ref hn, .ref hs, .ref hd, .ref hp, .ref hc, .int wy, .int dn])), (hn, .inl (cA, 34, .inl f))] H := hP
  have hD : va_D A [(hs, .inl (cA, 4096, .inl st)), (hc, .inl (cA, 257, .inl ct)), (hd, .inr (1, [.ref hn, .ref h1, .ref h2, .ref h3, .ref h4])), (hp, .inr (3, [.ref he, .int (nI la2_1), .int (nI ke2_2)])), (he, .inl (cA, 10752, .inl g2_3)), (h0, .inr (4, [.ref hn, .ref hs, .ref hd, .ref hp, .ref hc, .int wy, .int dn])), (hn, .inl (cA, 34, .inl f))] := hD
  refine lv_if_eq (tgt := 24) hx hb dX4_doStep_15 (by decide) (fun c_15 => ?_) (fun c_15 => absurd (by decide) c_15)
  refine lv_aload_n hx hb dX4_doStep_24 rfl (lv_at hl 0 rfl) ?_
  refine kVi (n3 := 0) (As := []) (rest := []) X hl.1 hE hP hD hS hA [(h0, .inr (4, [.ref hn, .ref hs, .ref hd, .ref hp, .ref hc, .int wy, .int dn])), (hn, .inl (cA, 34, .inl f)), (hs, .inl (cA, 4096, .inl st))] [(hc, .inl (cA, 257, .inl ct)), (hd, .inr (1, [.ref hn, .ref h1, .ref h2, .ref h3, .ref h4])), (hp, .inr (3, [.ref he, .int (nI la2_1), .int (nI ke2_2)])), (he, .inl (cA, 10752, .inl g2_3))] [5, 6, 0] [1, 2, 3, 4] rfl rfl rfl (by decide) (by decide) (by decide) (c_takeByte l D cA cB h0 hn hs hd hp hc wy dn f st hz) w_181 w_44 w_180 w_182 w_183 0 (ci := 4) (T := TX4) (N := 7) rfl rfl (by decide +kernel) rfl rfl (Nat.le_of_ble_eq_true rfl) ⟨(Nat.le_of_ble_eq_true rfl), (Nat.le_of_ble_eq_true rfl)⟩ ⟨(Nat.le_of_ble_eq_true rfl), (Nat.le_of_ble_eq_true rfl)⟩ dX4_doStep_25 (fun r W1 H locs hw hP hD hS => ?_)
  obtain ⟨rfl, rfl⟩ := hw
  have hP : va_P D classes [(hc, .inl (cA, 257, .inl ct)), (hd, .inr (1, [.ref hn, .ref h1, .ref h2, .ref h3, .ref h4])), (hp, .inr (3, [.ref he, .int (nI la2_1), .int (nI ke2_2)])), (he, .inl (cA, 10752, .inl g2_3)), (h0, .inr (4, [.ref hn, .ref hs, .ref hd, .ref hp, .ref hc, .int wy, .int dn])), (hn, .inl (cA, 34, .inl (upd f 4 (((f 4) + 1) &&& 4095)))), (hs, .inl (cA, 4096, .inl st))] H := hP
  have hD : va_D A [(hc, .inl (cA, 257, .inl ct)), (hd, .inr (1, [.ref hn, .ref h1, .ref h2, .ref h3, .ref h4])), (hp, .inr (3, [.ref he, .int (nI la2_1), .int (nI ke2_2)])), (he, .inl (cA, 10752, .inl g2_3)), (h0, .inr (4, [.ref hn, .ref hs, .ref hd, .ref hp, .ref hc, .int wy, .int dn])), (hn, .inl (cA, 34, .inl (upd f 4 (((f 4) + 1) &&& 4095)))), (hs, .inl (cA, 4096, .inl st))] := hD
  refine lv_istore_n (lv' := [(1, .int 0), (0, .ref h0)]) hx hb dX4_doStep_28 rfl hl (by decide) rfl (fun ls hl => ?_)
  refine lv_aload_n hx hb dX4_doStep_29 rfl (lv_at hl 1 rfl) ?_
  refine k_get (C := RX4) (T := TX4) (N := 7) (ci := 4) (v := .ref hp) X hE hP 4 rfl rfl iX4 3 (by decide) w_28 rfl dX4_doStep_30 ?_
  refine lv_iload_n hx hb dX4_doStep_33 rfl (lv_at hl 0 rfl) ?_
  refine kVv (n3 := 1) (As := [.int 0]) (rest := []) X hl.1 hE hP hD hS hA [(hp, .inr (3, [.ref he, .int (nI la2_1), .int (nI ke2_2)])), (he, .inl (cA, 10752, .inl g2_3))] [(hc, .inl (cA, 257, .inl ct)), (hd, .inr (1, [.ref hn, .ref h1, .ref h2, .ref h3, .ref h4])), (h0, .inr (4, [.ref hn, .ref hs, .ref hd, .ref hp, .ref hc, .int wy, .int dn])), (hn, .inl (cA, 34, .inl (upd f 4 (((f 4) + 1) &&& 4095)))), (hs, .inl (cA, 4096, .inl st))] [2, 3] [0, 1, 4, 5, 6] rfl rfl rfl (by decide) (by decide) (by decide) (c_keepCode0 l D cA cB hp he la2_1 (nI ke2_2) g2_3 hf_4) w_206 w_61 w_205 w_207 w_208 0 (ci := 3) (T := TX3) (N := 3) rfl rfl (by decide +kernel) rfl rfl (Nat.le_of_ble_eq_true rfl) ⟨(Nat.le_of_ble_eq_true rfl), (Nat.le_of_ble_eq_true rfl)⟩ ⟨(Nat.le_of_ble_eq_true rfl), (Nat.le_of_ble_eq_true rfl)⟩ dX4_doStep_34 (fun W1 H locs hw hP hD hS => ?_)
  obtain ⟨g2_6, rfl⟩ := hw
  have hP : va_P D classes [(hc, .inl (cA, 257, .inl ct)), (hd, .inr (1, [.ref hn, .ref h1, .ref h2, .ref h3, .ref h4])), (h0, .inr (4, [.ref hn, .ref hs, .ref hd, .ref hp, .ref hc, .int wy, .int dn])), (hn, .inl (cA, 34, .inl (upd f 4 (((f 4) + 1) &&& 4095)))), (hs, .inl (cA, 4096, .inl st)), (hp, .inr (3, [.ref he, .int (nI la2_1), .int ((nI ke2_2))])), (he, .inl (cA, 10752, .inl g2_6))] H := hP
  have hD : va_D A [(hc, .inl (cA, 257, .inl ct)), (hd, .inr (1, [.ref hn, .ref h1, .ref h2, .ref h3, .ref h4])), (h0, .inr (4, [.ref hn, .ref hs, .ref hd, .ref hp, .ref hc, .int wy, .int dn])), (hn, .inl (cA, 34, .inl (upd f 4 (((f 4) + 1) &&& 4095)))), (hs, .inl (cA, 4096, .inl st)), (hp, .inr (3, [.ref he, .int (nI la2_1), .int ((nI ke2_2))])), (he, .inl (cA, 10752, .inl g2_6))] := hD
  refine lv_aload_n hx hb dX4_doStep_37 rfl (lv_at hl 1 rfl) ?_
  refine k_get (C := RX4) (T := TX4) (N := 7) (ci := 4) (v := .ref hc) X hE hP 2 rfl rfl iX4 4 (by decide) w_24 rfl dX4_doStep_38 ?_
  refine lv_iload_n hx hb dX4_doStep_41 rfl (lv_at hl 0 rfl) ?_
  refine lv_dup2_11 hx hb dX4_doStep_42 rfl rfl ?_
  refine k_ald (v := ct 0) X hE hP 0 rfl 0 rfl (by decide) (by decide) rfl dX4_doStep_43 ?_
  refine lv_iconst (v := 1) hx hb dX4_doStep_44 (by decide) ?_
  refine lv_iadd hx hb dX4_doStep_45 ?_
  refine k_ast X hE hP hD hS 0 rfl 0 rfl (by decide) (by decide) [(hc, .inl (cA, 257, .inl (upd ct 0 ((ct 0) + 1)))), (hd, .inr (1, [.ref hn, .ref h1, .ref h2, .ref h3, .ref h4])), (h0, .inr (4, [.ref hn, .ref hs, .ref hd, .ref hp, .ref hc, .int wy, .int dn])), (hn, .inl (cA, 34, .inl (upd f 4 (((f 4) + 1) &&& 4095)))), (hs, .inl (cA, 4096, .inl st)), (hp, .inr (3, [.ref he, .int (nI la2_1), .int ((nI ke2_2))])), (he, .inl (cA, 10752, .inl g2_6))] rfl dX4_doStep_46 (fun H locs hP hD hS => ?_)
  refine lv_iload_n hx hb dX4_doStep_47 rfl (lv_at hl 0 rfl) ?_
  refine lv_sipush (v := 256) hx hb dX4_doStep_48 (by decide) ?_
  refine lv_icmp_ne (tgt := 61) hx hb dX4_doStep_51 (by decide) (fun c_51 => ?_) (fun c_51 => absurd c_51 (by decide))
  refine lv_aload_n hx hb dX4_doStep_61 rfl (lv_at hl 1 rfl) ?_
  refine lv_iload_n hx hb dX4_doStep_62 rfl (lv_at hl 0 rfl) ?_
  refine kVi (n3 := 1) (As := [.int 0]) (rest := []) X hl.1 hE hP hD hS hA [(h0, .inr (4, [.ref hn, .ref hs, .ref hd, .ref hp, .ref hc, .int wy, .int dn])), (hn, .inl (cA, 34, .inl (upd f 4 (((f 4) + 1) &&& 4095)))), (hs, .inl (cA, 4096, .inl st))] [(hc, .inl (cA, 257, .inl (upd ct 0 ((ct 0) + 1)))), (hd, .inr (1, [.ref hn, .ref h1, .ref h2, .ref h3, .ref h4])), (hp, .inr (3, [.ref he, .int (nI la2_1), .int ((nI ke2_2))])), (he, .inl (cA, 10752, .inl g2_6))] [2, 3, 4] [0, 1, 5, 6] rfl rfl rfl (by decide) (by decide) (by decide) (c_doCode0 l D cA cB h0 hn hs hd hp hc wy dn (upd f 4 (((f 4) + 1) &&& 4095)) st hI.2.2.2.2.1 hz) w_210 w_44 w_209 w_211 w_212 0 (ci := 4) (T := TX4) (N := 7) rfl rfl (by decide +kernel) rfl rfl (Nat.le_of_ble_eq_true rfl) ⟨(Nat.le_of_ble_eq_true rfl), (Nat.le_of_ble_eq_true rfl)⟩ ⟨(Nat.le_of_ble_eq_true rfl), (Nat.le_of_ble_eq_true rfl)⟩ dX4_doStep_63 (fun r W1 H locs hw hP hD hS => ?_)
  obtain ⟨rfl, rfl⟩ := hw
  have hP : va_P D classes [(hc, .inl (cA, 257, .inl (upd ct 0 ((ct 0) + 1)))), (hd, .inr (1, [.ref hn, .ref h1, .ref h2, .ref h3, .ref h4])), (hp, .inr (3, [.ref he, .int (nI la2_1), .int ((nI ke2_2))])), (he, .inl (cA, 10752, .inl g2_6)), (h0, .inr (4, [.ref hn, .ref hs, .ref hd, .ref hp, .ref hc, .int wy, .int dn])), (hn, .inl (cA, 34, .inl (upd (upd (upd (upd f 4 (((f 4) + 1) &&& 4095)) 4 ((((upd f 4 (((f 4) + 1) &&& 4095)) 4) + 1) &&& 4095)) 0 0) 5 6))), (hs, .inl (cA, 4096, .inl st))] H := hP
  have hD : va_D A [(hc, .inl (cA, 257, .inl (upd ct 0 ((ct 0) + 1)))), (hd, .inr (1, [.ref hn, .ref h1, .ref h2, .ref h3, .ref h4])), (hp, .inr (3, [.ref he, .int (nI la2_1), .int ((nI ke2_2))])), (he, .inl (cA, 10752, .inl g2_6)), (h0, .inr (4, [.ref hn, .ref hs, .ref hd, .ref hp, .ref hc, .int wy, .int dn])), (hn, .inl (cA, 34, .inl (upd (upd (upd (upd f 4 (((f 4) + 1) &&& 4095)) 4 ((((upd f 4 (((f 4) + 1) &&& 4095)) 4) + 1) &&& 4095)) 0 0) 5 6))), (hs, .inl (cA, 4096, .inl st))] := hD
  refine lv_istore_n (lv' := [(2, .int 2), (1, .int 0), (0, .ref h0)]) hx hb dX4_doStep_66 rfl hl (by decide) rfl (fun ls hl => ?_)
  refine lv_aload_n hx hb dX4_doStep_67 rfl (lv_at hl 2 rfl) ?_
  refine k_get (C := RX4) (T := TX4) (N := 7) (ci := 4) (v := .ref hd) X hE hP 4 rfl rfl iX4 2 (by decide) w_27 rfl dX4_doStep_68 ?_
  refine lv_iload_n hx hb dX4_doStep_71 rfl (lv_at hl 0 rfl) ?_
  refine kVi (n3 := 1) (As := [.int 2]) (rest := []) X hl.1 hE hP hD hS hA [(hd, .inr (1, [.ref hn, .ref h1, .ref h2, .ref h3, .ref h4])), (hn, .inl (cA, 34, .inl (upd (upd (upd (upd f 4 (((f 4) + 1) &&& 4095)) 4 ((((upd f 4 (((f 4) + 1) &&& 4095)) 4) + 1) &&& 4095)) 0 0) 5 6)))] [(hc, .inl (cA, 257, .inl (upd ct 0 ((ct 0) + 1)))), (hp, .inr (3, [.ref he, .int (nI la2_1), .int ((nI ke2_2))])), (he, .inl (cA, 10752, .inl g2_6)), (h0, .inr (4, [.ref hn, .ref hs, .ref hd, .ref hp, .ref hc, .int wy, .int dn])), (hs, .inl (cA, 4096, .inl st))] [1, 5] [0, 2, 3, 4, 6] rfl rfl rfl (by decide) (by decide) (by decide) (c_pass2 l D cA cB hd hn h1 h2 h3 h4 (upd (upd (upd (upd f 4 (((f 4) + 1) &&& 4095)) 4 ((((upd f 4 (((f 4) + 1) &&& 4095)) 4) + 1) &&& 4095)) 0 0) 5 6) (show InvN _ from ⟨hI.1, hI.2.1, hI.2.2.1, hI.2.2.2.1, Or.inr rfl, hI.2.2.2.2.2⟩)) w_214 w_69 w_213 w_215 w_216 0 (ci := 1) (T := TX1) (N := 5) rfl rfl (by decide +kernel) rfl rfl (Nat.le_of_ble_eq_true rfl) ⟨(Nat.le_of_ble_eq_true rfl), (Nat.le_of_ble_eq_true rfl)⟩ ⟨(Nat.le_of_ble_eq_true rfl), (Nat.le_of_ble_eq_true rfl)⟩ dX4_doStep_72 (fun r W1 H locs hw hP hD hS => ?_)
  obtain ⟨rfl, rfl⟩ := hw
  have hP : va_P D classes [(hc, .inl (cA, 257, .inl (upd ct 0 ((ct 0) + 1)))), (hp, .inr (3, [.ref he, .int (nI la2_1), .int ((nI ke2_2))])), (he, .inl (cA, 10752, .inl g2_6)), (h0, .inr (4, [.ref hn, .ref hs, .ref hd, .ref hp, .ref hc, .int wy, .int dn])), (hs, .inl (cA, 4096, .inl st)), (hd, .inr (1, [.ref hn, .ref h1, .ref h2, .ref h3, .ref h4])), (hn, .inl (cA, 34, .inl (upd (upd (upd (upd (upd (upd f 4 (((f 4) + 1) &&& 4095)) 4 ((((upd f 4 (((f 4) + 1) &&& 4095)) 4) + 1) &&& 4095)) 0 0) 5 6) 7 (((upd (upd (upd (upd f 4 (((f 4) + 1) &&& 4095)) 4 ((((upd f 4 (((f 4) + 1) &&& 4095)) 4) + 1) &&& 4095)) 0 0) 5 6) 7) + 2)) 17 0)))] H := hP
  have hD : va_D A [(hc, .inl (cA, 257, .inl (upd ct 0 ((ct 0) + 1)))), (hp, .inr (3, [.ref he, .int (nI la2_1), .int ((nI ke2_2))])), (he, .inl (cA, 10752, .inl g2_6)), (h0, .inr (4, [.ref hn, .ref hs, .ref hd, .ref hp, .ref hc, .int wy, .int dn])), (hs, .inl (cA, 4096, .inl st)), (hd, .inr (1, [.ref hn, .ref h1, .ref h2, .ref h3, .ref h4])), (hn, .inl (cA, 34, .inl (upd (upd (upd (upd (upd (upd f 4 (((f 4) + 1) &&& 4095)) 4 ((((upd f 4 (((f 4) + 1) &&& 4095)) 4) + 1) &&& 4095)) 0 0) 5 6) 7 (((upd (upd (upd (upd f 4 (((f 4) + 1) &&& 4095)) 4 ((((upd f 4 (((f 4) + 1) &&& 4095)) 4) + 1) &&& 4095)) 0 0) 5 6) 7) + 2)) 17 0)))] := hD
  refine lv_if_eq (tgt := 82) hx hb dX4_doStep_75 (by decide) (fun c_75 => ?_) (fun c_75 => absurd (by decide) c_75)
  have hP : va_P D classes [(h0, .inr (4, [.ref hn, .ref hs, .ref hd, .ref hp, .ref hc, .int wy, .int dn])), (hn, .inl (cA, 34, .inl (upd (upd (upd (upd (upd (upd f 4 (((f 4) + 1) &&& 4095)) 4 ((((upd f 4 (((f 4) + 1) &&& 4095)) 4) + 1) &&& 4095)) 0 0) 5 6) 7 (((upd (upd (upd (upd f 4 (((f 4) + 1) &&& 4095)) 4 ((((upd f 4 (((f 4) + 1) &&& 4095)) 4) + 1) &&& 4095)) 0 0) 5 6) 7) + 2)) 17 0))), (hs, .inl (cA, 4096, .inl st)), (hp, .inr (3, [.ref he, .int (nI la2_1), .int ((nI ke2_2))])), (he, .inl (cA, 10752, .inl g2_6)), (hc, .inl (cA, 257, .inl (upd ct 0 ((ct 0) + 1)))), (hd, .inr (1, [.ref hn, .ref h1, .ref h2, .ref h3, .ref h4]))] _ := hP.sub [3, 6, 4, 1, 2, 0, 5] rfl
  have hD : va_D A [(h0, .inr (4, [.ref hn, .ref hs, .ref hd, .ref hp, .ref hc, .int wy, .int dn])), (hn, .inl (cA, 34, .inl (upd (upd (upd (upd (upd (upd f 4 (((f 4) + 1) &&& 4095)) 4 ((((upd f 4 (((f 4) + 1) &&& 4095)) 4) + 1) &&& 4095)) 0 0) 5 6) 7 (((upd (upd (upd (upd f 4 (((f 4) + 1) &&& 4095)) 4 ((((upd f 4 (((f 4) + 1) &&& 4095)) 4) + 1) &&& 4095)) 0 0) 5 6) 7) + 2)) 17 0))), (hs, .inl (cA, 4096, .inl st)), (hp, .inr (3, [.ref he, .int (nI la2_1), .int ((nI ke2_2))])), (he, .inl (cA, 10752, .inl g2_6)), (hc, .inl (cA, 257, .inl (upd ct 0 ((ct 0) + 1)))), (hd, .inr (1, [.ref hn, .ref h1, .ref h2, .ref h3, .ref h4]))] := hD.sub [3, 6, 4, 1, 2, 0, 5] (by decide) rfl
  exact endV X hr hlocks hP hD hS dX4_doStep_82 ⟨(upd (upd (upd (upd (upd (upd f 4 (((f 4) + 1) &&& 4095)) 4 ((((upd f 4 (((f 4) + 1) &&& 4095)) 4) + 1) &&& 4095)) 0 0) 5 6) 7 (((upd (upd (upd (upd f 4 (((f 4) + 1) &&& 4095)) 4 ((((upd f 4 (((f 4) + 1) &&& 4095)) 4) + 1) &&& 4095)) 0 0) 5 6) 7) + 2)) 17 0), la2_1, ke2_2, g2_6, (upd ct 0 ((ct 0) + 1)), (show InvN _ from ⟨hI.1, hI.2.1, hI.2.2.1, rfl, Or.inr rfl, hI.2.2.2.2.2⟩), hf_4, hf_5, rfl⟩
end
section
abbrev cX4_doSteps : ByteArray := prog_6_method_5_code
def yX4_doSteps : MethodName := ⟨RX4, "doSteps", "(ILBelfryBox$Stops;)I"⟩
abbrev cX8_run : ByteArray := prog_1_method_13_code
def yX8_run : MethodName := ⟨RX8, "run", "(I)I"⟩
set_option maxRecDepth 100000 in
theorem w_217 : (Cond.fieldLink "BelfryBox$Processor" 47 "BelfryBox$Processor" "why" "I" : Cond) ∈ gw := List.mem_filter.mpr ⟨List.mem_append_right _ (tb1 (List.mem_of_getElem? (i := 82) rfl)), rfl⟩
set_option maxRecDepth 100000 in
theorem w_218 : (Cond.fieldLink "BelfryBox$Processor" 51 "BelfryBox$Processor" "done" "I" : Cond) ∈ gw := List.mem_filter.mpr ⟨List.mem_append_right _ (tb1 (List.mem_of_getElem? (i := 84) rfl)), rfl⟩
set_option maxRecDepth 100000 in
theorem w_219 : (Cond.methodLink "BelfryBox$Processor" 59 yX4_whyToEnd : Cond) ∈ gw := List.mem_filter.mpr ⟨List.mem_append_right _ (tb3 (List.mem_of_getElem? (i := 177) rfl)), rfl⟩
set_option maxRecDepth 100000 in
theorem w_220 : (Cond.code yX4_whyToEnd prog_6_method_6_code 3 (Option.some Jvm.ClassFile.FieldType.int) : Cond) ∈ gw := List.mem_filter.mpr ⟨List.mem_append_right _ (tb3 (List.mem_of_getElem? (i := 180) rfl)), rfl⟩
set_option maxRecDepth 100000 in
theorem w_221 : (Cond.instanceMethod yX4_whyToEnd : Cond) ∈ gw := List.mem_filter.mpr ⟨List.mem_append_right _ (tb3 (List.mem_of_getElem? (i := 179) rfl)), rfl⟩
set_option maxRecDepth 100000 in
theorem w_222 : (Cond.selects "BelfryBox$Processor" yX4_whyToEnd yX4_whyToEnd : Cond) ∈ gw := List.mem_filter.mpr ⟨List.mem_append_left _ (List.mem_map.mpr ⟨(⟨"BelfryBox$Processor", "whyToEnd", "(Z)I"⟩, 7), sl2 (List.mem_of_getElem? (i := 8) rfl), rfl⟩), rfl⟩
set_option maxRecDepth 100000 in
theorem w_223 : (Cond.methodLink "BelfryBox$Processor" 63 yX4_doStep : Cond) ∈ gw := List.mem_filter.mpr ⟨List.mem_append_right _ (tb3 (List.mem_of_getElem? (i := 189) rfl)), rfl⟩
set_option maxRecDepth 100000 in
theorem w_224 : (Cond.code yX4_doStep prog_6_method_8_code 3 (Option.none : Option Jvm.ClassFile.FieldType) : Cond) ∈ gw := List.mem_filter.mpr ⟨List.mem_append_right _ (tb3 (List.mem_of_getElem? (i := 192) rfl)), rfl⟩
set_option maxRecDepth 100000 in
theorem w_225 : (Cond.instanceMethod yX4_doStep : Cond) ∈ gw := List.mem_filter.mpr ⟨List.mem_append_right _ (tb3 (List.mem_of_getElem? (i := 191) rfl)), rfl⟩
set_option maxRecDepth 100000 in
theorem w_226 : (Cond.selects "BelfryBox$Processor" yX4_doStep yX4_doStep : Cond) ∈ gw := List.mem_filter.mpr ⟨List.mem_append_left _ (List.mem_map.mpr ⟨(⟨"BelfryBox$Processor", "doStep", "()V"⟩, 7), sl2 (List.mem_of_getElem? (i := 10) rfl), rfl⟩), rfl⟩
set_option maxRecDepth 100000 in
theorem w_227 : (Cond.methodLink "BelfryBox$Processor" 54 yX6_find : Cond) ∈ gw := List.mem_filter.mpr ⟨List.mem_append_right _ (tb3 (List.mem_of_getElem? (i := 176) rfl)), rfl⟩
set_option maxRecDepth 100000 in
theorem w_228 : (Cond.methodLink "BelfryBox" 137 yX4_doSteps : Cond) ∈ gw := List.mem_filter.mpr ⟨List.mem_append_right _ (tb3 (List.mem_of_getElem? (i := 172) rfl)), rfl⟩
set_option maxRecDepth 100000 in
theorem w_229 : (Cond.code yX4_doSteps prog_6_method_5_code 4 (Option.some Jvm.ClassFile.FieldType.int) : Cond) ∈ gw := List.mem_filter.mpr ⟨List.mem_append_right _ (tb3 (List.mem_of_getElem? (i := 175) rfl)), rfl⟩
set_option maxRecDepth 100000 in
theorem w_230 : (Cond.instanceMethod yX4_doSteps : Cond) ∈ gw := List.mem_filter.mpr ⟨List.mem_append_right _ (tb3 (List.mem_of_getElem? (i := 173) rfl)), rfl⟩
set_option maxRecDepth 100000 in
theorem w_231 : (Cond.selects "BelfryBox$Processor" yX4_doSteps yX4_doSteps : Cond) ∈ gw := List.mem_filter.mpr ⟨List.mem_append_right _ (tb3 (List.mem_of_getElem? (i := 174) rfl)), rfl⟩
theorem dX4_doSteps_0 : decode cX4_doSteps 0 = .ok (.aload_n 0, 1) := by decide +kernel
theorem dX4_doSteps_1 : decode cX4_doSteps 1 = .ok (.iconst 0, 1) := by decide +kernel
theorem dX4_doSteps_2 : decode cX4_doSteps 2 = .ok (.putfield 47, 3) := by decide +kernel
theorem dX4_doSteps_5 : decode cX4_doSteps 5 = .ok (.aload_n 0, 1) := by decide +kernel
theorem dX4_doSteps_6 : decode cX4_doSteps 6 = .ok (.iconst 0, 1) := by decide +kernel
theorem dX4_doSteps_7 : decode cX4_doSteps 7 = .ok (.putfield 51, 3) := by decide +kernel
theorem dX4_doSteps_10 : decode cX4_doSteps 10 = .ok (.iconst 0, 1) := by decide +kernel
theorem dX4_doSteps_11 : decode cX4_doSteps 11 = .ok (.istore_n 3, 1) := by decide +kernel
theorem dX4_doSteps_12 : decode cX4_doSteps 12 = .ok (.iload_n 3, 1) := by decide +kernel
theorem dX4_doSteps_13 : decode cX4_doSteps 13 = .ok (.iload_n 1, 1) := by decide +kernel
theorem dX4_doSteps_14 : decode cX4_doSteps 14 = .ok (.if_icmp .ge 64, 3) := by decide +kernel
theorem dX4_doSteps_78 : decode cX4_doSteps 78 = .ok (.aload_n 0, 1) := by decide +kernel
theorem dX4_doSteps_79 : decode cX4_doSteps 79 = .ok (.getfield 51, 3) := by decide +kernel
theorem dX4_doSteps_82 : decode cX4_doSteps 82 = .ok (.ireturn, 1) := by decide +kernel
theorem dX4_doSteps_17 : decode cX4_doSteps 17 = .ok (.aload_n 0, 1) := by decide +kernel
theorem dX4_doSteps_18 : decode cX4_doSteps 18 = .ok (.aload_n 0, 1) := by decide +kernel
theorem dX4_doSteps_19 : decode cX4_doSteps 19 = .ok (.iload_n 3, 1) := by decide +kernel
theorem dX4_doSteps_20 : decode cX4_doSteps 20 = .ok (.ifCond .le 21, 3) := by decide +kernel
theorem dX4_doSteps_41 : decode cX4_doSteps 41 = .ok (.iconst 0, 1) := by decide +kernel
theorem dX4_doSteps_42 : decode cX4_doSteps 42 = .ok (.invokevirtual 59, 3) := by decide +kernel
theorem dX4_doSteps_45 : decode cX4_doSteps 45 = .ok (.putfield 47, 3) := by decide +kernel
theorem dX4_doSteps_48 : decode cX4_doSteps 48 = .ok (.aload_n 0, 1) := by decide +kernel
theorem dX4_doSteps_49 : decode cX4_doSteps 49 = .ok (.getfield 47, 3) := by decide +kernel
theorem dX4_doSteps_52 : decode cX4_doSteps 52 = .ok (.ifCond .eq 6, 3) := by decide +kernel
theorem dX4_doSteps_58 : decode cX4_doSteps 58 = .ok (.aload_n 0, 1) := by decide +kernel
theorem dX4_doSteps_59 : decode cX4_doSteps 59 = .ok (.invokevirtual 63, 3) := by decide +kernel
theorem dX4_doSteps_62 : decode cX4_doSteps 62 = .ok (.aload_n 0, 1) := by decide +kernel
theorem dX4_doSteps_63 : decode cX4_doSteps 63 = .ok (.dup, 1) := by decide +kernel
theorem dX4_doSteps_64 : decode cX4_doSteps 64 = .ok (.getfield 51, 3) := by decide +kernel
theorem dX4_doSteps_67 : decode cX4_doSteps 67 = .ok (.iconst 1, 1) := by decide +kernel
theorem dX4_doSteps_68 : decode cX4_doSteps 68 = .ok (.iadd, 1) := by decide +kernel
theorem dX4_doSteps_69 : decode cX4_doSteps 69 = .ok (.putfield 51, 3) := by decide +kernel
theorem dX4_doSteps_72 : decode cX4_doSteps 72 = .ok (.iinc 3 1, 3) := by decide +kernel
theorem dX4_doSteps_75 : decode cX4_doSteps 75 = .ok (.goto (-63), 3) := by decide +kernel
theorem dX4_doSteps_23 : decode cX4_doSteps 23 = .ok (.aload_n 2, 1) := by decide +kernel
theorem dX4_doSteps_24 : decode cX4_doSteps 24 = .ok (.aload_n 0, 1) := by decide +kernel
theorem dX4_doSteps_25 : decode cX4_doSteps 25 = .ok (.getfield 15, 3) := by decide +kernel
theorem dX4_doSteps_28 : decode cX4_doSteps 28 = .ok (.iconst 4, 1) := by decide +kernel
theorem dX4_doSteps_29 : decode cX4_doSteps 29 = .ok (.iaload, 1) := by decide +kernel
theorem dX4_doSteps_30 : decode cX4_doSteps 30 = .ok (.invokevirtual 54, 3) := by decide +kernel
theorem dX4_doSteps_33 : decode cX4_doSteps 33 = .ok (.iconst (-1), 1) := by decide +kernel
theorem dX4_doSteps_34 : decode cX4_doSteps 34 = .ok (.if_icmp .eq 7, 3) := by decide +kernel
theorem dX8_run_0 : decode cX8_run 0 = .ok (.iload_n 1, 1) := by decide +kernel
theorem dX8_run_1 : decode cX8_run 1 = .ok (.iconst 1, 1) := by decide +kernel
theorem dX8_run_2 : decode cX8_run 2 = .ok (.if_icmp .lt 10, 3) := by decide +kernel
theorem dX8_run_12 : decode cX8_run 12 = .ok (.iconst (-1), 1) := by decide +kernel
theorem dX8_run_13 : decode cX8_run 13 = .ok (.ireturn, 1) := by decide +kernel
theorem dX8_run_5 : decode cX8_run 5 = .ok (.iload_n 1, 1) := by decide +kernel
theorem dX8_run_6 : decode cX8_run 6 = .ok (.sipush 2000, 3) := by decide +kernel
theorem dX8_run_9 : decode cX8_run 9 = .ok (.if_icmp .le 5, 3) := by decide +kernel
theorem dX8_run_14 : decode cX8_run 14 = .ok (.aload_n 0, 1) := by decide +kernel
theorem dX8_run_15 : decode cX8_run 15 = .ok (.getfield 37, 3) := by decide +kernel
theorem dX8_run_18 : decode cX8_run 18 = .ok (.iload_n 1, 1) := by decide +kernel
theorem dX8_run_19 : decode cX8_run 19 = .ok (.aload_n 0, 1) := by decide +kernel
theorem dX8_run_20 : decode cX8_run 20 = .ok (.getfield 44, 3) := by decide +kernel
theorem dX8_run_23 : decode cX8_run 23 = .ok (.invokevirtual 137, 3) := by decide +kernel
theorem dX8_run_26 : decode cX8_run 26 = .ok (.ireturn, 1) := by decide +kernel
set_option maxHeartbeats 4000000 in
set_option maxRecDepth 100000 in
theorem c_doSteps (l : Launch) (D : va_G) (cA cB : ClassId) (h0 : Nat) (hn : Nat) (hs : Nat) (hd : Nat) (hp : Nat) (hc : Nat) (wy : Int32) (dn : Int32) (he : Nat) (h1 : Nat) (h2 : Nat) (h3 : Nat) (h4 : Nat) (f : Nat → Int32) (st : Nat → Int32) (g : Nat → Int32) (ct : Nat → Int32) (la : Nat) (ke : Nat) (hst : Nat) (hsp : Nat) (sg : Nat → Int32) (N : Nat) (hI : InvN f) (hz : ∀ j, j < 4096 → st j = 0) (hla : la < 256) (hke : ke ≤ 256) (hN : N ≤ 2000) : CI l yX4_doSteps cX4_doSteps 4 (some .int) 5 111 0 0 D cA cB [.ref h0, .int (nI N), .ref hst] [(h0, .inr (4, [.ref hn, .ref hs, .ref hd, .ref hp, .ref hc, .int wy, .int dn])), (hn, .inl (cA, 34, .inl f)), (hs, .inl (cA, 4096, .inl st)), (hp, .inr (3, [.ref he, .int (nI la), .int (nI ke)])), (he, .inl (cA, 10752, .inl g)), (hc, .inl (cA, 257, .inl ct)), (hd, .inr (1, [.ref hn, .ref h1, .ref h2, .ref h3, .ref h4])), (hst, .inr (6, [.ref hsp, .int 0])), (hsp, .inl (cA, 16, .inl sg))] (fun r W1 => r = nI N) := by
  refine mkI (lv0 := [(0, .ref h0), (1, .int (nI N)), (2, .ref hst)]) (by decide) (Nat.le_of_ble_eq_true rfl) rfl ?_
  intro p e s m below meth c A ls X hr hlocks hnm hE hA hP hD hS hl
  have hx := X.1
  have hb := X.2.1
  refine lv_aload_n hx hb dX4_doSteps_0 rfl (lv_at hl 0 rfl) ?_
  refine lv_iconst (v := 0) hx hb dX4_doSteps_1 (by decide) ?_
  refine k_put (C := RX4) (T := TX4) (N := 7) (ci := 4) (v := .int 0) (ty := .int) X hE hP hD hS 0 rfl rfl iX4 tyX4 tyX4_ok nmX4 5 (by decide) w_217 rfl (by decide +kernel) rfl rfl (Nat.le_of_ble_eq_true rfl) [(h0, .inr (4, [.ref hn, .ref hs, .ref hd, .ref hp, .ref hc, .int 0, .int dn])), (hn, .inl (cA, 34, .inl f)), (hs, .inl (cA, 4096, .inl st)), (hp, .inr (3, [.ref he, .int (nI la), .int (nI ke)])), (he, .inl (cA, 10752, .inl g)), (hc, .inl (cA, 257, .inl ct)), (hd, .inr (1, [.ref hn, .ref h1, .ref h2, .ref h3, .ref h4])), (hst, .inr (6, [.ref hsp, .int 0])), (hsp, .inl (cA, 16, .inl sg))] rfl dX4_doSteps_2 (fun H locs hP hD hS => ?_)
  refine lv_aload_n hx hb dX4_doSteps_5 rfl (lv_at hl 0 rfl) ?_
  refine lv_iconst (v := 0) hx hb dX4_doSteps_6 (by decide) ?_
  refine k_put (C := RX4) (T := TX4) (N := 7) (ci := 4) (v := .int 0) (ty := .int) X hE hP hD hS 0 rfl rfl iX4 tyX4 tyX4_ok nmX4 6 (by decide) w_218 rfl (by decide +kernel) rfl rfl (Nat.le_of_ble_eq_true rfl) [(h0, .inr (4, [.ref hn, .ref hs, .ref hd, .ref hp, .ref hc, .int 0, .int 0])), (hn, .inl (cA, 34, .inl f)), (hs, .inl (cA, 4096, .inl st)), (hp, .inr (3, [.ref he, .int (nI la), .int (nI ke)])), (he, .inl (cA, 10752, .inl g)), (hc, .inl (cA, 257, .inl ct)), (hd, .inr (1, [.ref hn, .ref h1, .ref h2, .ref h3, .ref h4])), (hst, .inr (6, [.ref hsp, .int 0])), (hsp, .inl (cA, 16, .inl sg))] rfl dX4_doSteps_7 (fun H locs hP hD hS => ?_)
  refine lv_iconst (v := 0) hx hb dX4_doSteps_10 (by decide) ?_
  refine lv_istore_n (lv' := [(3, .int 0), (0, .ref h0), (1, .int (nI N)), (2, .ref hst)]) hx hb dX4_doSteps_11 rfl hl (by decide) rfl (fun ls hl => ?_)
  have loop_12 : ∀ (n : Nat) (k : Nat) (fv : Nat → Int32) (lav : Nat) (kev : Nat) (gv : Nat → Int32) (ctv : Nat → Int32), (k ≤ N) → (InvN fv) → (lav < 256) → (kev ≤ 256) → N < k + n → ∀ (H : Heap) (locs : List Loc), va_P D classes [(h0, .inr (4, [.ref hn, .ref hs, .ref hd, .ref hp, .ref hc, .int 0, .int (nI k)])), (hn, .inl (cA, 34, .inl fv)), (hs, .inl (cA, 4096, .inl st)), (hp, .inr (3, [.ref he, .int (nI lav), .int (nI kev)])), (he, .inl (cA, 10752, .inl gv)), (hc, .inl (cA, 257, .inl ctv)), (hd, .inr (1, [.ref hn, .ref h1, .ref h2, .ref h3, .ref h4])), (hst, .inr (6, [.ref hsp, .int 0])), (hsp, .inl (cA, 16, .inl sg))] H → va_D A [(h0, .inr (4, [.ref hn, .ref hs, .ref hd, .ref hp, .ref hc, .int 0, .int (nI k)])), (hn, .inl (cA, 34, .inl fv)), (hs, .inl (cA, 4096, .inl st)), (hp, .inr (3, [.ref he, .int (nI lav), .int (nI kev)])), (he, .inl (cA, 10752, .inl gv)), (hc, .inl (cA, 257, .inl ctv)), (hd, .inr (1, [.ref hn, .ref h1, .ref h2, .ref h3, .ref h4])), (hst, .inr (6, [.ref hsp, .int 0])), (hsp, .inl (cA, 16, .inl sg))] → va_S A s.heap H locs → ∀ ls : Array Slot, lv_has ls 4 [(0, .ref h0), (1, .int (nI N)), (2, .ref hst), (3, .int (nI k))] → W p l e { frames := 5, cells := 0, slots := 0, locals := 111 } s m (List.toArray [.ref h0, .int (nI N), .ref hst]) below meth c H locs 0 0 (MQ below (QI D (fun r W1 => r = nI N) A) (List.toArray [.ref h0, .int (nI N), .ref hst]) s 0 0 A) (F0 m 12 ls []) := by
    intro n
    induction n with
    | zero => intro k fv lav kev gv ctv hk hI2 hla2 hke2 hfuel; exact absurd hfuel (by omega)
    | succ n ih =>
      intro k fv lav kev gv ctv hk hI2 hla2 hke2 hfuel H locs hP hD hS ls hl
      refine lv_iload_n hx hb dX4_doSteps_12 rfl (lv_at hl 3 rfl) ?_
      refine lv_iload_n hx hb dX4_doSteps_13 rfl (lv_at hl 1 rfl) ?_
      refine lv_icmp_ge (tgt := 78) hx hb dX4_doSteps_14 (by decide) (fun c_14 => ?_) (fun c_14 => ?_)
      · skip
        refine lv_aload_n hx hb dX4_doSteps_78 rfl (lv_at hl 0 rfl) ?_
        refine k_get (C := RX4) (T := TX4) (N := 7) (ci := 4) (v := .int (nI k)) X hE hP 0 rfl rfl iX4 6 (by decide) w_218 rfl dX4_doSteps_79 ?_
        exact endI X hr hlocks hP hD hS dX4_doSteps_82 (congrArg nI (by have := (nI_leI (by omega) (by omega)).mp c_14; omega))
      · skip
        have hlt : k < N := by rcases Nat.lt_or_ge k N with q | q; exact q; exact absurd (nI_le q (by omega)) c_14
        refine lv_aload_n hx hb dX4_doSteps_17 rfl (lv_at hl 0 rfl) ?_
        refine lv_aload_n hx hb dX4_doSteps_18 rfl (lv_at hl 0 rfl) ?_
        refine lv_iload_n hx hb dX4_doSteps_19 rfl (lv_at hl 3 rfl) ?_
        refine lv_if_le (tgt := 41) hx hb dX4_doSteps_20 (by decide) (fun c_20 => ?_) (fun c_20 => ?_)
        · skip
          refine lv_iconst (v := 0) hx hb dX4_doSteps_41 (by decide) ?_
          refine kVi (n3 := 1) (As := [.int 0]) (rest := [.ref h0]) X hl.1 hE hP hD hS hA [(h0, .inr (4, [.ref hn, .ref hs, .ref hd, .ref hp, .ref hc, .int 0, .int (nI k)])), (hn, .inl (cA, 34, .inl fv)), (hs, .inl (cA, 4096, .inl st))] [(hp, .inr (3, [.ref he, .int (nI lav), .int (nI kev)])), (he, .inl (cA, 10752, .inl gv)), (hc, .inl (cA, 257, .inl ctv)), (hd, .inr (1, [.ref hn, .ref h1, .ref h2, .ref h3, .ref h4])), (hst, .inr (6, [.ref hsp, .int 0])), (hsp, .inl (cA, 16, .inl sg))] [0, 1, 2] [3, 4, 5, 6, 7, 8] rfl rfl rfl (by decide) (by decide) (by decide) (c_whyToEnd0 l D cA cB h0 hn hs hd hp hc 0 (nI k) fv st hI2 hz) w_220 w_44 w_219 w_221 w_222 0 (ci := 4) (T := TX4) (N := 7) rfl rfl (by decide +kernel) rfl rfl (Nat.le_of_ble_eq_true rfl) ⟨(Nat.le_of_ble_eq_true rfl), (Nat.le_of_ble_eq_true rfl)⟩ ⟨(Nat.le_of_ble_eq_true rfl), (Nat.le_of_ble_eq_true rfl)⟩ dX4_doSteps_42 (fun r W1 H locs hw hP hD hS => ?_)
          obtain ⟨rfl, rfl⟩ := hw
          have hP : va_P D classes [(hp, .inr (3, [.ref he, .int (nI lav), .int (nI kev)])), (he, .inl (cA, 10752, .inl gv)), (hc, .inl (cA, 257, .inl ctv)), (hd, .inr (1, [.ref hn, .ref h1, .ref h2, .ref h3, .ref h4])), (hst, .inr (6, [.ref hsp, .int 0])), (hsp, .inl (cA, 16, .inl sg)), (h0, .inr (4, [.ref hn, .ref hs, .ref hd, .ref hp, .ref hc, .int 0, .int ((nI k))])), (hn, .inl (cA, 34, .inl fv)), (hs, .inl (cA, 4096, .inl st))] H := hP
          have hD : va_D A [(hp, .inr (3, [.ref he, .int (nI lav), .int (nI kev)])), (he, .inl (cA, 10752, .inl gv)), (hc, .inl (cA, 257, .inl ctv)), (hd, .inr (1, [.ref hn, .ref h1, .ref h2, .ref h3, .ref h4])), (hst, .inr (6, [.ref hsp, .int 0])), (hsp, .inl (cA, 16, .inl sg)), (h0, .inr (4, [.ref hn, .ref hs, .ref hd, .ref hp, .ref hc, .int 0, .int ((nI k))])), (hn, .inl (cA, 34, .inl fv)), (hs, .inl (cA, 4096, .inl st))] := hD
          refine k_put (C := RX4) (T := TX4) (N := 7) (ci := 4) (v := .int 0) (ty := .int) X hE hP hD hS 6 rfl rfl iX4 tyX4 tyX4_ok nmX4 5 (by decide) w_217 rfl (by decide +kernel) rfl rfl (Nat.le_of_ble_eq_true rfl) [(hp, .inr (3, [.ref he, .int (nI lav), .int (nI kev)])), (he, .inl (cA, 10752, .inl gv)), (hc, .inl (cA, 257, .inl ctv)), (hd, .inr (1, [.ref hn, .ref h1, .ref h2, .ref h3, .ref h4])), (hst, .inr (6, [.ref hsp, .int 0])), (hsp, .inl (cA, 16, .inl sg)), (h0, .inr (4, [.ref hn, .ref hs, .ref hd, .ref hp, .ref hc, .int 0, .int ((nI k))])), (hn, .inl (cA, 34, .inl fv)), (hs, .inl (cA, 4096, .inl st))] rfl dX4_doSteps_45 (fun H locs hP hD hS => ?_)
          refine lv_aload_n hx hb dX4_doSteps_48 rfl (lv_at hl 0 rfl) ?_
          refine k_get (C := RX4) (T := TX4) (N := 7) (ci := 4) (v := .int 0) X hE hP 6 rfl rfl iX4 5 (by decide) w_217 rfl dX4_doSteps_49 ?_
          refine lv_if_eq (tgt := 58) hx hb dX4_doSteps_52 (by decide) (fun c_52 => ?_) (fun c_52 => absurd (by decide) c_52)
          refine lv_aload_n hx hb dX4_doSteps_58 rfl (lv_at hl 0 rfl) ?_
          refine kVv (n3 := 0) (As := []) (rest := []) X hl.1 hE hP hD hS hA [(h0, .inr (4, [.ref hn, .ref hs, .ref hd, .ref hp, .ref hc, .int 0, .int ((nI k))])), (hn, .inl (cA, 34, .inl fv)), (hs, .inl (cA, 4096, .inl st)), (hp, .inr (3, [.ref he, .int (nI lav), .int (nI kev)])), (he, .inl (cA, 10752, .inl gv)), (hc, .inl (cA, 257, .inl ctv)), (hd, .inr (1, [.ref hn, .ref h1, .ref h2, .ref h3, .ref h4]))] [(hst, .inr (6, [.ref hsp, .int 0])), (hsp, .inl (cA, 16, .inl sg))] [6, 7, 8, 0, 1, 2, 3] [4, 5] rfl rfl rfl (by decide) (by decide) (by decide) (c_doStep0 l D cA cB h0 hn hs hd hp hc 0 (nI k) he h1 h2 h3 h4 fv st gv ctv lav kev hI2 hz hla2 hke2) w_224 w_44 w_223 w_225 w_226 0 (ci := 4) (T := TX4) (N := 7) rfl rfl (by decide +kernel) rfl rfl (Nat.le_of_ble_eq_true rfl) ⟨(Nat.le_of_ble_eq_true rfl), (Nat.le_of_ble_eq_true rfl)⟩ ⟨(Nat.le_of_ble_eq_true rfl), (Nat.le_of_ble_eq_true rfl)⟩ dX4_doSteps_59 (fun W1 H locs hw hP hD hS => ?_)
          obtain ⟨f2_1, la2_2, ke2_3, g2_4, ct2_5, hf_6, hf_7, hf_8, rfl⟩ := hw
          have hP : va_P D classes [(hst, .inr (6, [.ref hsp, .int 0])), (hsp, .inl (cA, 16, .inl sg)), (h0, .inr (4, [.ref hn, .ref hs, .ref hd, .ref hp, .ref hc, .int 0, .int ((nI k))])), (hn, .inl (cA, 34, .inl f2_1)), (hs, .inl (cA, 4096, .inl st)), (hp, .inr (3, [.ref he, .int (nI la2_2), .int (nI ke2_3)])), (he, .inl (cA, 10752, .inl g2_4)), (hc, .inl (cA, 257, .inl ct2_5)), (hd, .inr (1, [.ref hn, .ref h1, .ref h2, .ref h3, .ref h4]))] H := hP
          have hD : va_D A [(hst, .inr (6, [.ref hsp, .int 0])), (hsp, .inl (cA, 16, .inl sg)), (h0, .inr (4, [.ref hn, .ref hs, .ref hd, .ref hp, .ref hc, .int 0, .int ((nI k))])), (hn, .inl (cA, 34, .inl f2_1)), (hs, .inl (cA, 4096, .inl st)), (hp, .inr (3, [.ref he, .int (nI la2_2), .int (nI ke2_3)])), (he, .inl (cA, 10752, .inl g2_4)), (hc, .inl (cA, 257, .inl ct2_5)), (hd, .inr (1, [.ref hn, .ref h1, .ref h2, .ref h3, .ref h4]))] := hD
          refine lv_aload_n hx hb dX4_doSteps_62 rfl (lv_at hl 0 rfl) ?_
          refine lv_dup hx hb dX4_doSteps_63 rfl ?_
          refine k_get (C := RX4) (T := TX4) (N := 7) (ci := 4) (v := .int ((nI k))) X hE hP 2 rfl rfl iX4 6 (by decide) w_218 rfl dX4_doSteps_64 ?_
          refine lv_iconst (v := 1) hx hb dX4_doSteps_67 (by decide) ?_
          refine lv_iadd hx hb dX4_doSteps_68 ?_
          refine tk (y := nI (k + 1)) (nI_1 k) ?_
          refine k_put (C := RX4) (T := TX4) (N := 7) (ci := 4) (v := .int (nI (k + 1))) (ty := .int) X hE hP hD hS 2 rfl rfl iX4 tyX4 tyX4_ok nmX4 6 (by decide) w_218 rfl (by decide +kernel) rfl rfl (Nat.le_of_ble_eq_true rfl) [(hst, .inr (6, [.ref hsp, .int 0])), (hsp, .inl (cA, 16, .inl sg)), (h0, .inr (4, [.ref hn, .ref hs, .ref hd, .ref hp, .ref hc, .int 0, .int (nI (k + 1))])), (hn, .inl (cA, 34, .inl f2_1)), (hs, .inl (cA, 4096, .inl st)), (hp, .inr (3, [.ref he, .int (nI la2_2), .int (nI ke2_3)])), (he, .inl (cA, 10752, .inl g2_4)), (hc, .inl (cA, 257, .inl ct2_5)), (hd, .inr (1, [.ref hn, .ref h1, .ref h2, .ref h3, .ref h4]))] rfl dX4_doSteps_69 (fun H locs hP hD hS => ?_)
          refine lv_iinc (v := nI (k + 1)) (lv' := [(3, .int (nI (k + 1))), (0, .ref h0), (1, .int (nI N)), (2, .ref hst)]) hx hb dX4_doSteps_72 hl (k := 3) rfl (nI_1 k) (by decide) rfl (fun ls hl => ?_)
          refine lv_goto (tgt := 12) hx hb dX4_doSteps_75 (by decide) ?_
          exact ih (k + 1) f2_1 la2_2 ke2_3 g2_4 ct2_5 (by omega) hf_6 hf_7 hf_8 (by omega) _ _ (hP.sub [2, 3, 4, 5, 6, 7, 8, 0, 1] rfl) (hD.sub [2, 3, 4, 5, 6, 7, 8, 0, 1] (by decide) rfl) hS ls (lv_sub hl [1, 2, 3, 0] rfl)
        · skip
          refine lv_aload_n hx hb dX4_doSteps_23 rfl (lv_at hl 2 rfl) ?_
          refine lv_aload_n hx hb dX4_doSteps_24 rfl (lv_at hl 0 rfl) ?_
          refine k_get (C := RX4) (T := TX4) (N := 7) (ci := 4) (v := .ref hn) X hE hP 0 rfl rfl iX4 0 (by decide) w_25 rfl dX4_doSteps_25 ?_
          refine lv_iconst (v := 4) hx hb dX4_doSteps_28 (by decide) ?_
          refine k_ald (v := fv 4) X hE hP 1 rfl 4 rfl (by decide) (by decide) rfl dX4_doSteps_29 ?_
          refine kVi (n3 := 1) (As := [.int (fv 4)]) (rest := [.ref h0, .ref h0]) X hl.1 hE hP hD hS hA [(hst, .inr (6, [.ref hsp, .int 0])), (hsp, .inl (cA, 16, .inl sg))] [(h0, .inr (4, [.ref hn, .ref hs, .ref hd, .ref hp, .ref hc, .int 0, .int (nI k)])), (hn, .inl (cA, 34, .inl fv)), (hs, .inl (cA, 4096, .inl st)), (hp, .inr (3, [.ref he, .int (nI lav), .int (nI kev)])), (he, .inl (cA, 10752, .inl gv)), (hc, .inl (cA, 257, .inl ctv)), (hd, .inr (1, [.ref hn, .ref h1, .ref h2, .ref h3, .ref h4]))] [7, 8] [0, 1, 2, 3, 4, 5, 6] rfl rfl rfl (by decide) (by decide) (by decide) (c_Stops_find0 l D cA cB hst hsp sg (fv 4) ) w_128 w_87 w_227 w_129 w_130 0 (ci := 6) (T := TX6) (N := 2) rfl rfl (by decide +kernel) rfl rfl (Nat.le_of_ble_eq_true rfl) ⟨(Nat.le_of_ble_eq_true rfl), (Nat.le_of_ble_eq_true rfl)⟩ ⟨(Nat.le_of_ble_eq_true rfl), (Nat.le_of_ble_eq_true rfl)⟩ dX4_doSteps_30 (fun r W1 H locs hw hP hD hS => ?_)
          obtain ⟨rfl, rfl⟩ := hw
          have hP : va_P D classes [(h0, .inr (4, [.ref hn, .ref hs, .ref hd, .ref hp, .ref hc, .int 0, .int (nI k)])), (hn, .inl (cA, 34, .inl fv)), (hs, .inl (cA, 4096, .inl st)), (hp, .inr (3, [.ref he, .int (nI lav), .int (nI kev)])), (he, .inl (cA, 10752, .inl gv)), (hc, .inl (cA, 257, .inl ctv)), (hd, .inr (1, [.ref hn, .ref h1, .ref h2, .ref h3, .ref h4])), (hst, .inr (6, [.ref hsp, .int 0])), (hsp, .inl (cA, 16, .inl sg))] H := hP
          have hD : va_D A [(h0, .inr (4, [.ref hn, .ref hs, .ref hd, .ref hp, .ref hc, .int 0, .int (nI k)])), (hn, .inl (cA, 34, .inl fv)), (hs, .inl (cA, 4096, .inl st)), (hp, .inr (3, [.ref he, .int (nI lav), .int (nI kev)])), (he, .inl (cA, 10752, .inl gv)), (hc, .inl (cA, 257, .inl ctv)), (hd, .inr (1, [.ref hn, .ref h1, .ref h2, .ref h3, .ref h4])), (hst, .inr (6, [.ref hsp, .int 0])), (hsp, .inl (cA, 16, .inl sg))] := hD
          refine lv_iconst (v := (-1)) hx hb dX4_doSteps_33 (by decide) ?_
          refine lv_icmp_eq (tgt := 41) hx hb dX4_doSteps_34 (by decide) (fun c_34 => ?_) (fun c_34 => absurd (by decide) c_34)
          refine lv_iconst (v := 0) hx hb dX4_doSteps_41 (by decide) ?_
          refine kVi (n3 := 1) (As := [.int 0]) (rest := [.ref h0]) X hl.1 hE hP hD hS hA [(h0, .inr (4, [.ref hn, .ref hs, .ref hd, .ref hp, .ref hc, .int 0, .int (nI k)])), (hn, .inl (cA, 34, .inl fv)), (hs, .inl (cA, 4096, .inl st))] [(hp, .inr (3, [.ref he, .int (nI lav), .int (nI kev)])), (he, .inl (cA, 10752, .inl gv)), (hc, .inl (cA, 257, .inl ctv)), (hd, .inr (1, [.ref hn, .ref h1, .ref h2, .ref h3, .ref h4])), (hst, .inr (6, [.ref hsp, .int 0])), (hsp, .inl (cA, 16, .inl sg))] [0, 1, 2] [3, 4, 5, 6, 7, 8] rfl rfl rfl (by decide) (by decide) (by decide) (c_whyToEnd0 l D cA cB h0 hn hs hd hp hc 0 (nI k) fv st hI2 hz) w_220 w_44 w_219 w_221 w_222 0 (ci := 4) (T := TX4) (N := 7) rfl rfl (by decide +kernel) rfl rfl (Nat.le_of_ble_eq_true rfl) ⟨(Nat.le_of_ble_eq_true rfl), (Nat.le_of_ble_eq_true rfl)⟩ ⟨(Nat.le_of_ble_eq_true rfl), (Nat.le_of_ble_eq_true rfl)⟩ dX4_doSteps_42 (fun r W1 H locs hw hP hD hS => ?_)
          obtain ⟨rfl, rfl⟩ := hw
          have hP : va_P D classes [(hp, .inr (3, [.ref he, .int (nI lav), .int (nI kev)])), (he, .inl (cA, 10752, .inl gv)), (hc, .inl (cA, 257, .inl ctv)), (hd, .inr (1, [.ref hn, .ref h1, .ref h2, .ref h3, .ref h4])), (hst, .inr (6, [.ref hsp, .int 0])), (hsp, .inl (cA, 16, .inl sg)), (h0, .inr (4, [.ref hn, .ref hs, .ref hd, .ref hp, .ref hc, .int 0, .int ((nI k))])), (hn, .inl (cA, 34, .inl fv)), (hs, .inl (cA, 4096, .inl st))] H := hP
          have hD : va_D A [(hp, .inr (3, [.ref he, .int (nI lav), .int (nI kev)])), (he, .inl (cA, 10752, .inl gv)), (hc, .inl (cA, 257, .inl ctv)), (hd, .inr (1, [.ref hn, .ref h1, .ref h2, .ref h3, .ref h4])), (hst, .inr (6, [.ref hsp, .int 0])), (hsp, .inl (cA, 16, .inl sg)), (h0, .inr (4, [.ref hn, .ref hs, .ref hd, .ref hp, .ref hc, .int 0, .int ((nI k))])), (hn, .inl (cA, 34, .inl fv)), (hs, .inl (cA, 4096, .inl st))] := hD
          refine k_put (C := RX4) (T := TX4) (N := 7) (ci := 4) (v := .int 0) (ty := .int) X hE hP hD hS 6 rfl rfl iX4 tyX4 tyX4_ok nmX4 5 (by decide) w_217 rfl (by decide +kernel) rfl rfl (Nat.le_of_ble_eq_true rfl) [(hp, .inr (3, [.ref he, .int (nI lav), .int (nI kev)])), (he, .inl (cA, 10752, .inl gv)), (hc, .inl (cA, 257, .inl ctv)), (hd, .inr (1, [.ref hn, .ref h1, .ref h2, .ref h3, .ref h4])), (hst, .inr (6, [.ref hsp, .int 0])), (hsp, .inl (cA, 16, .inl sg)), (h0, .inr (4, [.ref hn, .ref hs, .ref hd, .ref hp, .ref hc, .int 0, .int ((nI k))])), (hn, .inl (cA, 34, .inl fv)), (hs, .inl (cA, 4096, .inl st))] rfl dX4_doSteps_45 (fun H locs hP hD hS => ?_)
          refine lv_aload_n hx hb dX4_doSteps_48 rfl (lv_at hl 0 rfl) ?_
          refine k_get (C := RX4) (T := TX4) (N := 7) (ci := 4) (v := .int 0) X hE hP 6 rfl rfl iX4 5 (by decide) w_217 rfl dX4_doSteps_49 ?_
          refine lv_if_eq (tgt := 58) hx hb dX4_doSteps_52 (by decide) (fun c_52 => ?_) (fun c_52 => absurd (by decide) c_52)
          refine lv_aload_n hx hb dX4_doSteps_58 rfl (lv_at hl 0 rfl) ?_
          refine kVv (n3 := 0) (As := []) (rest := []) X hl.1 hE hP hD hS hA [(h0, .inr (4, [.ref hn, .ref hs, .ref hd, .ref hp, .ref hc, .int 0, .int ((nI k))])), (hn, .inl (cA, 34, .inl fv)), (hs, .inl (cA, 4096, .inl st)), (hp, .inr (3, [.ref he, .int (nI lav), .int (nI kev)])), (he, .inl (cA, 10752, .inl gv)), (hc, .inl (cA, 257, .inl ctv)), (hd, .inr (1, [.ref hn, .ref h1, .ref h2, .ref h3, .ref h4]))] [(hst, .inr (6, [.ref hsp, .int 0])), (hsp, .inl (cA, 16, .inl sg))] [6, 7, 8, 0, 1, 2, 3] [4, 5] rfl rfl rfl (by decide) (by decide) (by decide) (c_doStep0 l D cA cB h0 hn hs hd hp hc 0 (nI k) he h1 h2 h3 h4 fv st gv ctv lav kev hI2 hz hla2 hke2) w_224 w_44 w_223 w_225 w_226 0 (ci := 4) (T := TX4) (N := 7) rfl rfl (by decide +kernel) rfl rfl (Nat.le_of_ble_eq_true rfl) ⟨(Nat.le_of_ble_eq_true rfl), (Nat.le_of_ble_eq_true rfl)⟩ ⟨(Nat.le_of_ble_eq_true rfl), (Nat.le_of_ble_eq_true rfl)⟩ dX4_doSteps_59 (fun W1 H locs hw hP hD hS => ?_)
          obtain ⟨f2_9, la2_10, ke2_11, g2_12, ct2_13, hf_14, hf_15, hf_16, rfl⟩ := hw
          have hP : va_P D classes [(hst, .inr (6, [.ref hsp, .int 0])), (hsp, .inl (cA, 16, .inl sg)), (h0, .inr (4, [.ref hn, .ref hs, .ref hd, .ref hp, .ref hc, .int 0, .int ((nI k))])), (hn, .inl (cA, 34, .inl f2_9)), (hs, .inl (cA, 4096, .inl st)), (hp, .inr (3, [.ref he, .int (nI la2_10), .int (nI ke2_11)])), (he, .inl (cA, 10752, .inl g2_12)), (hc, .inl (cA, 257, .inl ct2_13)), (hd, .inr (1, [.ref hn, .ref h1, .ref h2, .ref h3, .ref h4]))] H := hP
          have hD : va_D A [(hst, .inr (6, [.ref hsp, .int 0])), (hsp, .inl (cA, 16, .inl sg)), (h0, .inr (4, [.ref hn, .ref hs, .ref hd, .ref hp, .ref hc, .int 0, .int ((nI k))])), (hn, .inl (cA, 34, .inl f2_9)), (hs, .inl (cA, 4096, .inl st)), (hp, .inr (3, [.ref he, .int (nI la2_10), .int (nI ke2_11)])), (he, .inl (cA, 10752, .inl g2_12)), (hc, .inl (cA, 257, .inl ct2_13)), (hd, .inr (1, [.ref hn, .ref h1, .ref h2, .ref h3, .ref h4]))] := hD
          refine lv_aload_n hx hb dX4_doSteps_62 rfl (lv_at hl 0 rfl) ?_
          refine lv_dup hx hb dX4_doSteps_63 rfl ?_
          refine k_get (C := RX4) (T := TX4) (N := 7) (ci := 4) (v := .int ((nI k))) X hE hP 2 rfl rfl iX4 6 (by decide) w_218 rfl dX4_doSteps_64 ?_
          refine lv_iconst (v := 1) hx hb dX4_doSteps_67 (by decide) ?_
          refine lv_iadd hx hb dX4_doSteps_68 ?_
          refine tk (y := nI (k + 1)) (nI_1 k) ?_
          refine k_put (C := RX4) (T := TX4) (N := 7) (ci := 4) (v := .int (nI (k + 1))) (ty := .int) X hE hP hD hS 2 rfl rfl iX4 tyX4 tyX4_ok nmX4 6 (by decide) w_218 rfl (by decide +kernel) rfl rfl (Nat.le_of_ble_eq_true rfl) [(hst, .inr (6, [.ref hsp, .int 0])), (hsp, .inl (cA, 16, .inl sg)), (h0, .inr (4, [.ref hn, .ref hs, .ref hd, .ref hp, .ref hc, .int 0, .int (nI (k + 1))])), (hn, .inl (cA, 34, .inl f2_9)), (hs, .inl (cA, 4096, .inl st)), (hp, .inr (3, [.ref he, .int (nI la2_10), .int (nI ke2_11)])), (he, .inl (cA, 10752, .inl g2_12)), (hc, .inl (cA, 257, .inl ct2_13)), (hd, .inr (1, [.ref hn, .ref h1, .ref h2, .ref h3, .ref h4]))] rfl dX4_doSteps_69 (fun H locs hP hD hS => ?_)
          refine lv_iinc (v := nI (k + 1)) (lv' := [(3, .int (nI (k + 1))), (0, .ref h0), (1, .int (nI N)), (2, .ref hst)]) hx hb dX4_doSteps_72 hl (k := 3) rfl (nI_1 k) (by decide) rfl (fun ls hl => ?_)
          refine lv_goto (tgt := 12) hx hb dX4_doSteps_75 (by decide) ?_
          exact ih (k + 1) f2_9 la2_10 ke2_11 g2_12 ct2_13 (by omega) hf_14 hf_15 hf_16 (by omega) _ _ (hP.sub [2, 3, 4, 5, 6, 7, 8, 0, 1] rfl) (hD.sub [2, 3, 4, 5, 6, 7, 8, 0, 1] (by decide) rfl) hS ls (lv_sub hl [1, 2, 3, 0] rfl)
  exact loop_12 (N + 1) 0 f la ke g ct (Nat.zero_le _) hI hla hke (by omega) _ _ hP hD hS ls (lv_sub hl [1, 2, 3, 0] rfl)
set_option maxHeartbeats 4000000 in
set_option maxRecDepth 100000 in
theorem c_run (l : Launch) (D : va_G) (cA cB : ClassId) (h0 : Nat) (qn : Nat) (qs : Nat) (qd : Nat) (qp : Nat) (qr : Nat) (qt : Nat) (qa : Nat) (qm : Nat) (qe : Nat) (f : Nat → Int32) (qd1 : Nat) (qd2 : Nat) (qd3 : Nat) (qd4 : Nat) (qpe : Nat) (qrc : Nat) (gc : Nat → Int32) (qtp : Nat) (a : Int32) (hfr : frn f) (hgc : ∀ j, j < 257 → gc j = 0) : CI l yX8_run cX8_run 2 (some .int) 6 134 0 0 D cA cB [.ref h0, .int a] [(h0, .inr (8, [.ref qn, .ref qs, .ref qd, .ref qp, .ref qr, .ref qt, .ref qa, .ref qm, .ref qe])), (qn, .inl (cA, 34, .inl f)), (qs, .inl (cA, 4096, .inl (fun _ => 0))), (qd, .inr (1, [.ref qn, .ref qd1, .ref qd2, .ref qd3, .ref qd4])), (qp, .inr (3, [.ref qpe, .int 0, .int 0])), (qpe, .inl (cA, 10752, .inl (fun _ => 0))), (qr, .inr (4, [.ref qn, .ref qs, .ref qd, .ref qp, .ref qrc, .int 0, .int 0])), (qrc, .inl (cA, 257, .inl gc)), (qt, .inr (6, [.ref qtp, .int 0])), (qtp, .inl (cA, 16, .inl (fun _ => 0)))] (fun r W1 => r = (sp_run a)) := by
  refine mkI (lv0 := [(0, .ref h0), (1, .int a)]) (by decide) (Nat.le_of_ble_eq_true rfl) rfl ?_
  intro p e s m below meth c A ls X hr hlocks hnm hE hA hP hD hS hl
  have hx := X.1
  have hb := X.2.1
  refine lv_iload_n hx hb dX8_run_0 rfl (lv_at hl 1 rfl) ?_
  refine lv_iconst (v := 1) hx hb dX8_run_1 (by decide) ?_
  refine lv_icmp_lt (tgt := 12) hx hb dX8_run_2 (by decide) (fun c_2 => ?_) (fun c_2 => ?_)
  · skip
    refine lv_iconst (v := (-1)) hx hb dX8_run_12 (by decide) ?_
    exact endI X hr hlocks hP hD hS dX8_run_13 (by unfold sp_run; rw [if_pos c_2])
  · skip
    refine lv_iload_n hx hb dX8_run_5 rfl (lv_at hl 1 rfl) ?_
    refine lv_sipush (v := 2000) hx hb dX8_run_6 (by decide) ?_
    refine lv_icmp_le (tgt := 14) hx hb dX8_run_9 (by decide) (fun c_9 => ?_) (fun c_9 => ?_)
    · skip
      obtain ⟨N, hN, eN⟩ := idx_le (n := 2000) (by decide) (fun q => c_2 (Int32.lt_trans q (by decide))) (Int32.not_lt.mpr c_9)
      subst eN
      refine lv_aload_n hx hb dX8_run_14 rfl (lv_at hl 0 rfl) ?_
      refine k_get (C := RX8) (T := TX8) (N := 9) (ci := 8) (v := .ref qr) X hE hP 0 rfl rfl iX8 4 (by decide) w_84 rfl dX8_run_15 ?_
      refine lv_iload_n hx hb dX8_run_18 rfl (lv_at hl 1 rfl) ?_
      refine lv_aload_n hx hb dX8_run_19 rfl (lv_at hl 0 rfl) ?_
      refine k_get (C := RX8) (T := TX8) (N := 9) (ci := 8) (v := .ref qt) X hE hP 0 rfl rfl iX8 5 (by decide) w_90 rfl dX8_run_20 ?_
      refine kVi (n3 := 2) (As := [.int (nI N), .ref qt]) (rest := []) X hl.1 hE hP hD hS hA [(qr, .inr (4, [.ref qn, .ref qs, .ref qd, .ref qp, .ref qrc, .int 0, .int 0])), (qn, .inl (cA, 34, .inl f)), (qs, .inl (cA, 4096, .inl (fun _ => 0))), (qp, .inr (3, [.ref qpe, .int 0, .int 0])), (qpe, .inl (cA, 10752, .inl (fun _ => 0))), (qrc, .inl (cA, 257, .inl gc)), (qd, .inr (1, [.ref qn, .ref qd1, .ref qd2, .ref qd3, .ref qd4])), (qt, .inr (6, [.ref qtp, .int 0])), (qtp, .inl (cA, 16, .inl (fun _ => 0)))] [(h0, .inr (8, [.ref qn, .ref qs, .ref qd, .ref qp, .ref qr, .ref qt, .ref qa, .ref qm, .ref qe]))] [6, 1, 2, 4, 5, 7, 3, 8, 9] [0] rfl rfl rfl (by decide) (by decide) (by decide) (c_doSteps l D cA cB qr qn qs qd qp qrc 0 0 qpe qd1 qd2 qd3 qd4 f (fun _ => 0) (fun _ => 0) gc 0 0 qt qtp (fun _ => 0) N (frn_inv hfr) (fun _ _ => rfl) (by decide) (by decide) hN) w_229 w_44 w_228 w_230 w_231 0 (ci := 4) (T := TX4) (N := 7) rfl rfl (by decide +kernel) rfl rfl (Nat.le_of_ble_eq_true rfl) ⟨(Nat.le_of_ble_eq_true rfl), (Nat.le_of_ble_eq_true rfl)⟩ ⟨(Nat.le_of_ble_eq_true rfl), (Nat.le_of_ble_eq_true rfl)⟩ dX8_run_23 (fun r W1 H locs hw hP hD hS => ?_)
      obtain rfl := hw
      have hP : va_P D classes [(h0, .inr (8, [.ref qn, .ref qs, .ref qd, .ref qp, .ref qr, .ref qt, .ref qa, .ref qm, .ref qe]))] H := hP.sub [0] rfl
      have hD : va_D A [(h0, .inr (8, [.ref qn, .ref qs, .ref qd, .ref qp, .ref qr, .ref qt, .ref qa, .ref qm, .ref qe]))] := hD.sub [0] (by decide) rfl
      exact endI X hr hlocks hP hD hS dX8_run_26 (by unfold sp_run; rw [if_neg c_2, if_pos c_9])
    · skip
      refine lv_iconst (v := (-1)) hx hb dX8_run_12 (by decide) ?_
      exact endI X hr hlocks hP hD hS dX8_run_13 (by unfold sp_run; rw [if_neg c_2, if_neg c_9])
end
section
abbrev cX8_assemble : ByteArray := prog_1_method_4_code
def yX8_assemble : MethodName := ⟨RX8, "assemble", "()I"⟩
abbrev cX0_begin : ByteArray := prog_2_method_2_code
def yX0_begin : MethodName := ⟨RX0, "begin", "()V"⟩
abbrev cX0_readLines : ByteArray := prog_2_method_4_code
def yX0_readLines : MethodName := ⟨RX0, "readLines", "(Z)Z"⟩
abbrev cX0_beginLine : ByteArray := prog_2_method_5_code
def yX0_beginLine : MethodName := ⟨RX0, "beginLine", "(I)V"⟩
abbrev cX7_beginLine : ByteArray := prog_9_method_4_code
def yX7_beginLine : MethodName := ⟨RX7, "beginLine", "(I)V"⟩
abbrev cX7_next : ByteArray := prog_9_method_5_code
def yX7_next : MethodName := ⟨RX7, "next", "()V"⟩
abbrev cX0_readName : ByteArray := prog_2_method_8_code
def yX0_readName : MethodName := ⟨RX0, "readName", "()Z"⟩
abbrev cX0_readWord : ByteArray := prog_2_method_9_code
def yX0_readWord : MethodName := ⟨RX0, "readWord", "()Z"⟩
abbrev cX0_readRemark : ByteArray := prog_2_method_10_code
def yX0_readRemark : MethodName := ⟨RX0, "readRemark", "()Z"⟩
abbrev cX0_checkFirst : ByteArray := prog_2_method_20_code
def yX0_checkFirst : MethodName := ⟨RX0, "checkFirst", "()Z"⟩
abbrev cX0_leaveSpace : ByteArray := prog_2_method_22_code
def yX0_leaveSpace : MethodName := ⟨RX0, "leaveSpace", "()V"⟩
abbrev cX0_checkSecond : ByteArray := prog_2_method_21_code
def yX0_checkSecond : MethodName := ⟨RX0, "checkSecond", "()Z"⟩
abbrev cX0_settle : ByteArray := prog_2_method_3_code
def yX0_settle : MethodName := ⟨RX0, "settle", "([I)V"⟩
set_option maxRecDepth 100000 in
theorem w_232 : (Cond.methodLink "BelfryBox$Assembler" 39 yJ7_fill_53178 : Cond) ∈ gw := List.mem_filter.mpr ⟨List.mem_append_right _ (tb2 (List.mem_of_getElem? (i := 98) rfl)), rfl⟩
set_option maxRecDepth 100000 in
theorem w_233 : (Cond.methodLink "BelfryBox" 86 yX0_begin : Cond) ∈ gw := List.mem_filter.mpr ⟨List.mem_append_right _ (tb2 (List.mem_of_getElem? (i := 94) rfl)), rfl⟩
set_option maxRecDepth 100000 in
theorem w_234 : (Cond.code yX0_begin prog_2_method_2_code 1 (Option.none : Option Jvm.ClassFile.FieldType) : Cond) ∈ gw := List.mem_filter.mpr ⟨List.mem_append_right _ (tb2 (List.mem_of_getElem? (i := 97) rfl)), rfl⟩
set_option maxRecDepth 100000 in
theorem w_235 : (Cond.instanceMethod yX0_begin : Cond) ∈ gw := List.mem_filter.mpr ⟨List.mem_append_right _ (tb2 (List.mem_of_getElem? (i := 95) rfl)), rfl⟩
set_option maxRecDepth 100000 in
theorem w_236 : (Cond.selects "BelfryBox$Assembler" yX0_begin yX0_begin : Cond) ∈ gw := List.mem_filter.mpr ⟨List.mem_append_right _ (tb2 (List.mem_of_getElem? (i := 96) rfl)), rfl⟩
set_option maxRecDepth 100000 in
theorem w_237 : (Cond.fieldLink "BelfryBox$Assembler" 51 "BelfryBox$Assembler" "laying" "Z" : Cond) ∈ gw := List.mem_filter.mpr ⟨List.mem_append_right _ (tb1 (List.mem_of_getElem? (i := 200) rfl)), rfl⟩
set_option maxRecDepth 100000 in
theorem w_238 : (Cond.fieldLink "BelfryBox$Assembler" 55 "BelfryBox$Assembler" "address" "I" : Cond) ∈ gw := List.mem_filter.mpr ⟨List.mem_append_right _ (tb1 (List.mem_of_getElem? (i := 198) rfl)), rfl⟩
set_option maxRecDepth 100000 in
theorem w_239 : (Cond.fieldLink "BelfryBox$Assembler" 95 "BelfryBox$Assembler" "namePlace" "I" : Cond) ∈ gw := List.mem_filter.mpr ⟨List.mem_append_right _ (tb1 (List.mem_of_getElem? (i := 201) rfl)), rfl⟩
set_option maxRecDepth 100000 in
theorem w_240 : (Cond.fieldLink "BelfryBox$Assembler" 98 "BelfryBox$Assembler" "equation" "Z" : Cond) ∈ gw := List.mem_filter.mpr ⟨List.mem_append_right _ (tb1 (List.mem_of_getElem? (i := 203) rfl)), rfl⟩
set_option maxRecDepth 100000 in
theorem w_241 : (Cond.fieldLink "BelfryBox$Assembler" 83 "BelfryBox$Assembler" "word" "I" : Cond) ∈ gw := List.mem_filter.mpr ⟨List.mem_append_right _ (tb1 (List.mem_of_getElem? (i := 204) rfl)), rfl⟩
set_option maxRecDepth 100000 in
theorem w_242 : (Cond.fieldLink "BelfryBox$Assembler" 89 "BelfryBox$Assembler" "size" "I" : Cond) ∈ gw := List.mem_filter.mpr ⟨List.mem_append_right _ (tb1 (List.mem_of_getElem? (i := 206) rfl)), rfl⟩
set_option maxRecDepth 100000 in
theorem w_243 : (Cond.fieldLink "BelfryBox$Assembler" 101 "BelfryBox$Assembler" "unknownPlace" "I" : Cond) ∈ gw := List.mem_filter.mpr ⟨List.mem_append_right _ (tb1 (List.mem_of_getElem? (i := 209) rfl)), rfl⟩
set_option maxRecDepth 100000 in
theorem w_244 : (Cond.fieldLink "BelfryBox$Assembler" 104 "BelfryBox$Assembler" "rangePlace" "I" : Cond) ∈ gw := List.mem_filter.mpr ⟨List.mem_append_right _ (tb1 (List.mem_of_getElem? (i := 210) rfl)), rfl⟩
set_option maxRecDepth 100000 in
theorem w_245 : (Cond.fieldLink "BelfryBox$Tape" 19 "BelfryBox$Tape" "at" "I" : Cond) ∈ gw := List.mem_filter.mpr ⟨List.mem_append_right _ (tb1 (List.mem_of_getElem? (i := 128) rfl)), rfl⟩
set_option maxRecDepth 100000 in
theorem w_246 : (Cond.fieldLink "BelfryBox$Tape" 22 "BelfryBox$Tape" "lineEnd" "I" : Cond) ∈ gw := List.mem_filter.mpr ⟨List.mem_append_right _ (tb1 (List.mem_of_getElem? (i := 126) rfl)), rfl⟩
set_option maxRecDepth 100000 in
theorem w_247 : (Cond.methodLink "BelfryBox$Assembler" 107 yX7_beginLine : Cond) ∈ gw := List.mem_filter.mpr ⟨List.mem_append_right _ (tb2 (List.mem_of_getElem? (i := 107) rfl)), rfl⟩
set_option maxRecDepth 100000 in
theorem w_248 : (Cond.code yX7_beginLine prog_9_method_4_code 2 (Option.none : Option Jvm.ClassFile.FieldType) : Cond) ∈ gw := List.mem_filter.mpr ⟨List.mem_append_right _ (tb2 (List.mem_of_getElem? (i := 110) rfl)), rfl⟩
set_option maxRecDepth 100000 in
theorem w_249 : (Cond.instanceMethod yX7_beginLine : Cond) ∈ gw := List.mem_filter.mpr ⟨List.mem_append_right _ (tb2 (List.mem_of_getElem? (i := 108) rfl)), rfl⟩
set_option maxRecDepth 100000 in
theorem w_250 : (Cond.selects "BelfryBox$Tape" yX7_beginLine yX7_beginLine : Cond) ∈ gw := List.mem_filter.mpr ⟨List.mem_append_right _ (tb2 (List.mem_of_getElem? (i := 109) rfl)), rfl⟩
set_option maxRecDepth 100000 in
theorem w_251 : (Cond.fieldLink "BelfryBox$Tape" 25 "BelfryBox$Tape" "place" "I" : Cond) ∈ gw := List.mem_filter.mpr ⟨List.mem_append_right _ (tb1 (List.mem_of_getElem? (i := 132) rfl)), rfl⟩
set_option maxRecDepth 100000 in
theorem w_252 : (Cond.fieldLink "BelfryBox$Tape" 28 "BelfryBox$Tape" "missing" "I" : Cond) ∈ gw := List.mem_filter.mpr ⟨List.mem_append_right _ (tb1 (List.mem_of_getElem? (i := 138) rfl)), rfl⟩
set_option maxRecDepth 100000 in
theorem w_253 : (Cond.fieldLink "BelfryBox$Tape" 31 "BelfryBox$Tape" "kind" "I" : Cond) ∈ gw := List.mem_filter.mpr ⟨List.mem_append_right _ (tb1 (List.mem_of_getElem? (i := 130) rfl)), rfl⟩
set_option maxRecDepth 100000 in
theorem w_254 : (Cond.methodLink "BelfryBox$Assembler" 108 yX7_next : Cond) ∈ gw := List.mem_filter.mpr ⟨List.mem_append_right _ (tb2 (List.mem_of_getElem? (i := 111) rfl)), rfl⟩
set_option maxRecDepth 100000 in
theorem w_255 : (Cond.code yX7_next prog_9_method_5_code 2 (Option.none : Option Jvm.ClassFile.FieldType) : Cond) ∈ gw := List.mem_filter.mpr ⟨List.mem_append_right _ (tb2 (List.mem_of_getElem? (i := 114) rfl)), rfl⟩
set_option maxRecDepth 100000 in
theorem w_256 : (Cond.instanceMethod yX7_next : Cond) ∈ gw := List.mem_filter.mpr ⟨List.mem_append_right _ (tb2 (List.mem_of_getElem? (i := 112) rfl)), rfl⟩
set_option maxRecDepth 100000 in
theorem w_257 : (Cond.selects "BelfryBox$Tape" yX7_next yX7_next : Cond) ∈ gw := List.mem_filter.mpr ⟨List.mem_append_right _ (tb2 (List.mem_of_getElem? (i := 113) rfl)), rfl⟩
set_option maxRecDepth 100000 in
theorem w_258 : (Cond.methodLink "BelfryBox$Assembler" 63 yX0_beginLine : Cond) ∈ gw := List.mem_filter.mpr ⟨List.mem_append_right _ (tb2 (List.mem_of_getElem? (i := 103) rfl)), rfl⟩
set_option maxRecDepth 100000 in
theorem w_259 : (Cond.code yX0_beginLine prog_2_method_5_code 2 (Option.none : Option Jvm.ClassFile.FieldType) : Cond) ∈ gw := List.mem_filter.mpr ⟨List.mem_append_right _ (tb2 (List.mem_of_getElem? (i := 106) rfl)), rfl⟩
set_option maxRecDepth 100000 in
theorem w_260 : (Cond.instanceMethod yX0_beginLine : Cond) ∈ gw := List.mem_filter.mpr ⟨List.mem_append_right _ (tb2 (List.mem_of_getElem? (i := 105) rfl)), rfl⟩
set_option maxRecDepth 100000 in
theorem w_261 : (Cond.selects "BelfryBox$Assembler" yX0_beginLine yX0_beginLine : Cond) ∈ gw := List.mem_filter.mpr ⟨List.mem_append_left _ (List.mem_map.mpr ⟨(⟨"BelfryBox$Assembler", "beginLine", "(I)V"⟩, 18), sl1 (List.mem_of_getElem? (i := 3) rfl), rfl⟩), rfl⟩
set_option maxRecDepth 100000 in
theorem w_262 : (Cond.methodLink "BelfryBox$Assembler" 67 yX0_readName : Cond) ∈ gw := List.mem_filter.mpr ⟨List.mem_append_right _ (tb3 (List.mem_of_getElem? (i := 13) rfl)), rfl⟩
set_option maxRecDepth 100000 in
theorem w_263 : (Cond.code yX0_readName prog_2_method_8_code 1 (Option.some Jvm.ClassFile.FieldType.boolean) : Cond) ∈ gw := List.mem_filter.mpr ⟨List.mem_append_right _ (tb3 (List.mem_of_getElem? (i := 16) rfl)), rfl⟩
set_option maxRecDepth 100000 in
theorem w_264 : (Cond.instanceMethod yX0_readName : Cond) ∈ gw := List.mem_filter.mpr ⟨List.mem_append_right _ (tb3 (List.mem_of_getElem? (i := 15) rfl)), rfl⟩
set_option maxRecDepth 100000 in
theorem w_265 : (Cond.selects "BelfryBox$Assembler" yX0_readName yX0_readName : Cond) ∈ gw := List.mem_filter.mpr ⟨List.mem_append_left _ (List.mem_map.mpr ⟨(⟨"BelfryBox$Assembler", "readName", "()Z"⟩, 18), sl1 (List.mem_of_getElem? (i := 8) rfl), rfl⟩), rfl⟩
set_option maxRecDepth 100000 in
theorem w_266 : (Cond.methodLink "BelfryBox$Assembler" 71 yX0_readWord : Cond) ∈ gw := List.mem_filter.mpr ⟨List.mem_append_right _ (tb3 (List.mem_of_getElem? (i := 25) rfl)), rfl⟩
set_option maxRecDepth 100000 in
theorem w_267 : (Cond.code yX0_readWord prog_2_method_9_code 1 (Option.some Jvm.ClassFile.FieldType.boolean) : Cond) ∈ gw := List.mem_filter.mpr ⟨List.mem_append_right _ (tb3 (List.mem_of_getElem? (i := 28) rfl)), rfl⟩
set_option maxRecDepth 100000 in
theorem w_268 : (Cond.instanceMethod yX0_readWord : Cond) ∈ gw := List.mem_filter.mpr ⟨List.mem_append_right _ (tb3 (List.mem_of_getElem? (i := 27) rfl)), rfl⟩
set_option maxRecDepth 100000 in
theorem w_269 : (Cond.selects "BelfryBox$Assembler" yX0_readWord yX0_readWord : Cond) ∈ gw := List.mem_filter.mpr ⟨List.mem_append_left _ (List.mem_map.mpr ⟨(⟨"BelfryBox$Assembler", "readWord", "()Z"⟩, 18), sl1 (List.mem_of_getElem? (i := 11) rfl), rfl⟩), rfl⟩
set_option maxRecDepth 100000 in
theorem w_270 : (Cond.methodLink "BelfryBox$Assembler" 74 yX0_readRemark : Cond) ∈ gw := List.mem_filter.mpr ⟨List.mem_append_right _ (tb3 (List.mem_of_getElem? (i := 80) rfl)), rfl⟩
set_option maxRecDepth 100000 in
theorem w_271 : (Cond.code yX0_readRemark prog_2_method_10_code 1 (Option.some Jvm.ClassFile.FieldType.boolean) : Cond) ∈ gw := List.mem_filter.mpr ⟨List.mem_append_right _ (tb3 (List.mem_of_getElem? (i := 83) rfl)), rfl⟩
set_option maxRecDepth 100000 in
theorem w_272 : (Cond.instanceMethod yX0_readRemark : Cond) ∈ gw := List.mem_filter.mpr ⟨List.mem_append_right _ (tb3 (List.mem_of_getElem? (i := 82) rfl)), rfl⟩
set_option maxRecDepth 100000 in
theorem w_273 : (Cond.selects "BelfryBox$Assembler" yX0_readRemark yX0_readRemark : Cond) ∈ gw := List.mem_filter.mpr ⟨List.mem_append_left _ (List.mem_map.mpr ⟨(⟨"BelfryBox$Assembler", "readRemark", "()Z"⟩, 18), sl2 (List.mem_of_getElem? (i := 4) rfl), rfl⟩), rfl⟩
set_option maxRecDepth 100000 in
theorem w_274 : (Cond.methodLink "BelfryBox$Assembler" 193 yX0_leaveSpace : Cond) ∈ gw := List.mem_filter.mpr ⟨List.mem_append_right _ (tb3 (List.mem_of_getElem? (i := 88) rfl)), rfl⟩
set_option maxRecDepth 100000 in
theorem w_275 : (Cond.code yX0_leaveSpace prog_2_method_22_code 1 (Option.none : Option Jvm.ClassFile.FieldType) : Cond) ∈ gw := List.mem_filter.mpr ⟨List.mem_append_right _ (tb3 (List.mem_of_getElem? (i := 91) rfl)), rfl⟩
set_option maxRecDepth 100000 in
theorem w_276 : (Cond.instanceMethod yX0_leaveSpace : Cond) ∈ gw := List.mem_filter.mpr ⟨List.mem_append_right _ (tb3 (List.mem_of_getElem? (i := 90) rfl)), rfl⟩
set_option maxRecDepth 100000 in
theorem w_277 : (Cond.selects "BelfryBox$Assembler" yX0_leaveSpace yX0_leaveSpace : Cond) ∈ gw := List.mem_filter.mpr ⟨List.mem_append_left _ (List.mem_map.mpr ⟨(⟨"BelfryBox$Assembler", "leaveSpace", "()V"⟩, 18), sl2 (List.mem_of_getElem? (i := 6) rfl), rfl⟩), rfl⟩
set_option maxRecDepth 100000 in
theorem w_278 : (Cond.methodLink "BelfryBox$Assembler" 80 yX0_checkFirst : Cond) ∈ gw := List.mem_filter.mpr ⟨List.mem_append_right _ (tb3 (List.mem_of_getElem? (i := 92) rfl)), rfl⟩
set_option maxRecDepth 100000 in
theorem w_279 : (Cond.code yX0_checkFirst prog_2_method_20_code 3 (Option.some Jvm.ClassFile.FieldType.boolean) : Cond) ∈ gw := List.mem_filter.mpr ⟨List.mem_append_right _ (tb3 (List.mem_of_getElem? (i := 95) rfl)), rfl⟩
set_option maxRecDepth 100000 in
theorem w_280 : (Cond.instanceMethod yX0_checkFirst : Cond) ∈ gw := List.mem_filter.mpr ⟨List.mem_append_right _ (tb3 (List.mem_of_getElem? (i := 94) rfl)), rfl⟩
set_option maxRecDepth 100000 in
theorem w_281 : (Cond.selects "BelfryBox$Assembler" yX0_checkFirst yX0_checkFirst : Cond) ∈ gw := List.mem_filter.mpr ⟨List.mem_append_left _ (List.mem_map.mpr ⟨(⟨"BelfryBox$Assembler", "checkFirst", "()Z"⟩, 18), sl2 (List.mem_of_getElem? (i := 7) rfl), rfl⟩), rfl⟩
set_option maxRecDepth 100000 in
theorem w_282 : (Cond.methodLink "BelfryBox" 89 yX0_readLines : Cond) ∈ gw := List.mem_filter.mpr ⟨List.mem_append_right _ (tb2 (List.mem_of_getElem? (i := 99) rfl)), rfl⟩
set_option maxRecDepth 100000 in
theorem w_283 : (Cond.code yX0_readLines prog_2_method_4_code 5 (Option.some Jvm.ClassFile.FieldType.boolean) : Cond) ∈ gw := List.mem_filter.mpr ⟨List.mem_append_right _ (tb2 (List.mem_of_getElem? (i := 102) rfl)), rfl⟩
set_option maxRecDepth 100000 in
theorem w_284 : (Cond.instanceMethod yX0_readLines : Cond) ∈ gw := List.mem_filter.mpr ⟨List.mem_append_right _ (tb2 (List.mem_of_getElem? (i := 100) rfl)), rfl⟩
set_option maxRecDepth 100000 in
theorem w_285 : (Cond.selects "BelfryBox$Assembler" yX0_readLines yX0_readLines : Cond) ∈ gw := List.mem_filter.mpr ⟨List.mem_append_right _ (tb2 (List.mem_of_getElem? (i := 101) rfl)), rfl⟩
set_option maxRecDepth 100000 in
theorem w_286 : (Cond.methodLink "BelfryBox$Assembler" 77 yX0_checkSecond : Cond) ∈ gw := List.mem_filter.mpr ⟨List.mem_append_right _ (tb3 (List.mem_of_getElem? (i := 84) rfl)), rfl⟩
set_option maxRecDepth 100000 in
theorem w_287 : (Cond.code yX0_checkSecond prog_2_method_21_code 1 (Option.some Jvm.ClassFile.FieldType.boolean) : Cond) ∈ gw := List.mem_filter.mpr ⟨List.mem_append_right _ (tb3 (List.mem_of_getElem? (i := 87) rfl)), rfl⟩
set_option maxRecDepth 100000 in
theorem w_288 : (Cond.instanceMethod yX0_checkSecond : Cond) ∈ gw := List.mem_filter.mpr ⟨List.mem_append_right _ (tb3 (List.mem_of_getElem? (i := 86) rfl)), rfl⟩
set_option maxRecDepth 100000 in
theorem w_289 : (Cond.selects "BelfryBox$Assembler" yX0_checkSecond yX0_checkSecond : Cond) ∈ gw := List.mem_filter.mpr ⟨List.mem_append_left _ (List.mem_map.mpr ⟨(⟨"BelfryBox$Assembler", "checkSecond", "()Z"⟩, 18), sl2 (List.mem_of_getElem? (i := 5) rfl), rfl⟩), rfl⟩
set_option maxRecDepth 100000 in
theorem w_290 : (Cond.methodLink "BelfryBox$Assembler" 45 ⟨"java/lang/System", "arraycopy", "(Ljava/lang/Object;ILjava/lang/Object;II)V"⟩ : Cond) ∈ gw := List.mem_filter.mpr ⟨List.mem_append_right _ (tb3 (List.mem_of_getElem? (i := 108) rfl)), rfl⟩
set_option maxRecDepth 100000 in
theorem w_291 : (Cond.methodLink "BelfryBox" 93 yX0_settle : Cond) ∈ gw := List.mem_filter.mpr ⟨List.mem_append_right _ (tb3 (List.mem_of_getElem? (i := 104) rfl)), rfl⟩
set_option maxRecDepth 100000 in
theorem w_292 : (Cond.code yX0_settle prog_2_method_3_code 3 (Option.none : Option Jvm.ClassFile.FieldType) : Cond) ∈ gw := List.mem_filter.mpr ⟨List.mem_append_right _ (tb3 (List.mem_of_getElem? (i := 107) rfl)), rfl⟩
set_option maxRecDepth 100000 in
theorem w_293 : (Cond.instanceMethod yX0_settle : Cond) ∈ gw := List.mem_filter.mpr ⟨List.mem_append_right _ (tb3 (List.mem_of_getElem? (i := 105) rfl)), rfl⟩
set_option maxRecDepth 100000 in
theorem w_294 : (Cond.selects "BelfryBox$Assembler" yX0_settle yX0_settle : Cond) ∈ gw := List.mem_filter.mpr ⟨List.mem_append_right _ (tb3 (List.mem_of_getElem? (i := 106) rfl)), rfl⟩
theorem nw_22 : (Cond.fieldLinkNest "BelfryBox$Assembler" 36 "BelfryBox$Names" "count" "I" "BelfryBox" : Cond) ∈ nests := List.mem_of_getElem? (i := 22) rfl
theorem nw_13 : (Cond.fieldLinkNest "BelfryBox$Assembler" 60 "BelfryBox$Tape" "length" "I" "BelfryBox" : Cond) ∈ nests := List.mem_of_getElem? (i := 13) rfl
theorem nw_16 : (Cond.fieldLinkNest "BelfryBox$Assembler" 118 "BelfryBox$Tape" "kind" "I" "BelfryBox" : Cond) ∈ nests := List.mem_of_getElem? (i := 16) rfl
theorem nw_14 : (Cond.fieldLinkNest "BelfryBox$Assembler" 92 "BelfryBox$Tape" "lineEnd" "I" "BelfryBox" : Cond) ∈ nests := List.mem_of_getElem? (i := 14) rfl
theorem nw_27 : (Cond.fieldLinkNest "BelfryBox" 96 "BelfryBox$Assembler" "address" "I" "BelfryBox" : Cond) ∈ nests := List.mem_of_getElem? (i := 27) rfl
theorem dX8_assemble_0 : decode cX8_assemble 0 = .ok (.aload_n 0, 1) := by decide +kernel
theorem dX8_assemble_1 : decode cX8_assemble 1 = .ok (.getfield 60, 3) := by decide +kernel
theorem dX8_assemble_4 : decode cX8_assemble 4 = .ok (.invokevirtual 86, 3) := by decide +kernel
theorem dX0_begin_0 : decode cX0_begin 0 = .ok (.aload_n 0, 1) := by decide +kernel
theorem dX0_begin_1 : decode cX0_begin 1 = .ok (.getfield 18, 3) := by decide +kernel
theorem dX0_begin_4 : decode cX0_begin 4 = .ok (.iconst 0, 1) := by decide +kernel
theorem dX0_begin_5 : decode cX0_begin 5 = .ok (.putfield 36, 3) := by decide +kernel
theorem dX0_begin_8 : decode cX0_begin 8 = .ok (.aload_n 0, 1) := by decide +kernel
theorem dX0_begin_9 : decode cX0_begin 9 = .ok (.iconst 0, 1) := by decide +kernel
theorem dX0_begin_10 : decode cX0_begin 10 = .ok (.putfield 25, 3) := by decide +kernel
theorem dX0_begin_13 : decode cX0_begin 13 = .ok (.aload_n 0, 1) := by decide +kernel
theorem dX0_begin_14 : decode cX0_begin 14 = .ok (.iconst (-1), 1) := by decide +kernel
theorem dX0_begin_15 : decode cX0_begin 15 = .ok (.putfield 29, 3) := by decide +kernel
theorem dX0_begin_18 : decode cX0_begin 18 = .ok (.aload_n 0, 1) := by decide +kernel
theorem dX0_begin_19 : decode cX0_begin 19 = .ok (.getfield 9, 3) := by decide +kernel
theorem dX0_begin_22 : decode cX0_begin 22 = .ok (.iconst 0, 1) := by decide +kernel
theorem dX0_begin_23 : decode cX0_begin 23 = .ok (.invokestatic 39, 3) := by decide +kernel
theorem dX0_begin_26 : decode cX0_begin 26 = .ok (.return_, 1) := by decide +kernel
theorem dX8_assemble_7 : decode cX8_assemble 7 = .ok (.aload_n 0, 1) := by decide +kernel
theorem dX8_assemble_8 : decode cX8_assemble 8 = .ok (.getfield 60, 3) := by decide +kernel
theorem dX8_assemble_11 : decode cX8_assemble 11 = .ok (.iconst 0, 1) := by decide +kernel
theorem dX8_assemble_12 : decode cX8_assemble 12 = .ok (.invokevirtual 89, 3) := by decide +kernel
theorem dX0_readLines_0 : decode cX0_readLines 0 = .ok (.aload_n 0, 1) := by decide +kernel
theorem dX0_readLines_1 : decode cX0_readLines 1 = .ok (.iload_n 1, 1) := by decide +kernel
theorem dX0_readLines_2 : decode cX0_readLines 2 = .ok (.putfield 51, 3) := by decide +kernel
theorem dX0_readLines_5 : decode cX0_readLines 5 = .ok (.aload_n 0, 1) := by decide +kernel
theorem dX0_readLines_6 : decode cX0_readLines 6 = .ok (.iconst 0, 1) := by decide +kernel
theorem dX0_readLines_7 : decode cX0_readLines 7 = .ok (.putfield 55, 3) := by decide +kernel
theorem dX0_readLines_10 : decode cX0_readLines 10 = .ok (.iconst 0, 1) := by decide +kernel
theorem dX0_readLines_11 : decode cX0_readLines 11 = .ok (.istore_n 2, 1) := by decide +kernel
theorem dX0_readLines_12 : decode cX0_readLines 12 = .ok (.iconst 0, 1) := by decide +kernel
theorem dX0_readLines_13 : decode cX0_readLines 13 = .ok (.istore_n 3, 1) := by decide +kernel
theorem dX0_readLines_14 : decode cX0_readLines 14 = .ok (.iload_n 3, 1) := by decide +kernel
theorem dX0_readLines_15 : decode cX0_readLines 15 = .ok (.sipush 6000, 3) := by decide +kernel
theorem dX0_readLines_18 : decode cX0_readLines 18 = .ok (.if_icmp .gt 120, 3) := by decide +kernel
theorem dX0_readLines_21 : decode cX0_readLines 21 = .ok (.iload_n 2, 1) := by decide +kernel
theorem dX0_readLines_22 : decode cX0_readLines 22 = .ok (.aload_n 0, 1) := by decide +kernel
theorem dX0_readLines_23 : decode cX0_readLines 23 = .ok (.getfield 32, 3) := by decide +kernel
theorem dX0_readLines_26 : decode cX0_readLines 26 = .ok (.getfield 60, 3) := by decide +kernel
theorem dX0_readLines_29 : decode cX0_readLines 29 = .ok (.if_icmp .gt 109, 3) := by decide +kernel
theorem dX0_readLines_32 : decode cX0_readLines 32 = .ok (.aload_n 0, 1) := by decide +kernel
theorem dX0_readLines_33 : decode cX0_readLines 33 = .ok (.iload_n 2, 1) := by decide +kernel
theorem dX0_readLines_34 : decode cX0_readLines 34 = .ok (.invokevirtual 63, 3) := by decide +kernel
theorem dX0_beginLine_0 : decode cX0_beginLine 0 = .ok (.aload_n 0, 1) := by decide +kernel
theorem dX0_beginLine_1 : decode cX0_beginLine 1 = .ok (.iconst (-1), 1) := by decide +kernel
theorem dX0_beginLine_2 : decode cX0_beginLine 2 = .ok (.putfield 95, 3) := by decide +kernel
theorem dX0_beginLine_5 : decode cX0_beginLine 5 = .ok (.aload_n 0, 1) := by decide +kernel
theorem dX0_beginLine_6 : decode cX0_beginLine 6 = .ok (.iconst 0, 1) := by decide +kernel
theorem dX0_beginLine_7 : decode cX0_beginLine 7 = .ok (.putfield 98, 3) := by decide +kernel
theorem dX0_beginLine_10 : decode cX0_beginLine 10 = .ok (.aload_n 0, 1) := by decide +kernel
theorem dX0_beginLine_11 : decode cX0_beginLine 11 = .ok (.iconst (-1), 1) := by decide +kernel
theorem dX0_beginLine_12 : decode cX0_beginLine 12 = .ok (.putfield 83, 3) := by decide +kernel
theorem dX0_beginLine_15 : decode cX0_beginLine 15 = .ok (.aload_n 0, 1) := by decide +kernel
theorem dX0_beginLine_16 : decode cX0_beginLine 16 = .ok (.iconst 0, 1) := by decide +kernel
theorem dX0_beginLine_17 : decode cX0_beginLine 17 = .ok (.putfield 89, 3) := by decide +kernel
theorem dX0_beginLine_20 : decode cX0_beginLine 20 = .ok (.aload_n 0, 1) := by decide +kernel
theorem dX0_beginLine_21 : decode cX0_beginLine 21 = .ok (.iconst (-1), 1) := by decide +kernel
theorem dX0_beginLine_22 : decode cX0_beginLine 22 = .ok (.putfield 101, 3) := by decide +kernel
theorem dX0_beginLine_25 : decode cX0_beginLine 25 = .ok (.aload_n 0, 1) := by decide +kernel
theorem dX0_beginLine_26 : decode cX0_beginLine 26 = .ok (.iconst (-1), 1) := by decide +kernel
theorem dX0_beginLine_27 : decode cX0_beginLine 27 = .ok (.putfield 104, 3) := by decide +kernel
theorem dX0_beginLine_30 : decode cX0_beginLine 30 = .ok (.aload_n 0, 1) := by decide +kernel
theorem dX0_beginLine_31 : decode cX0_beginLine 31 = .ok (.getfield 32, 3) := by decide +kernel
theorem dX0_beginLine_34 : decode cX0_beginLine 34 = .ok (.iload_n 1, 1) := by decide +kernel
theorem dX0_beginLine_35 : decode cX0_beginLine 35 = .ok (.invokevirtual 107, 3) := by decide +kernel
theorem dX7_beginLine_0 : decode cX7_beginLine 0 = .ok (.aload_n 0, 1) := by decide +kernel
theorem dX7_beginLine_1 : decode cX7_beginLine 1 = .ok (.iload_n 1, 1) := by decide +kernel
theorem dX7_beginLine_2 : decode cX7_beginLine 2 = .ok (.putfield 19, 3) := by decide +kernel
theorem dX7_beginLine_5 : decode cX7_beginLine 5 = .ok (.aload_n 0, 1) := by decide +kernel
theorem dX7_beginLine_6 : decode cX7_beginLine 6 = .ok (.iload_n 1, 1) := by decide +kernel
theorem dX7_beginLine_7 : decode cX7_beginLine 7 = .ok (.putfield 22, 3) := by decide +kernel
theorem dX7_beginLine_10 : decode cX7_beginLine 10 = .ok (.aload_n 0, 1) := by decide +kernel
theorem dX7_beginLine_11 : decode cX7_beginLine 11 = .ok (.getfield 22, 3) := by decide +kernel
theorem dX7_beginLine_14 : decode cX7_beginLine 14 = .ok (.aload_n 0, 1) := by decide +kernel
theorem dX7_beginLine_15 : decode cX7_beginLine 15 = .ok (.getfield 15, 3) := by decide +kernel
theorem dX7_beginLine_18 : decode cX7_beginLine 18 = .ok (.if_icmp .ge 30, 3) := by decide +kernel
theorem dX7_beginLine_48 : decode cX7_beginLine 48 = .ok (.return_, 1) := by decide +kernel
theorem dX0_beginLine_38 : decode cX0_beginLine 38 = .ok (.aload_n 0, 1) := by decide +kernel
theorem dX0_beginLine_39 : decode cX0_beginLine 39 = .ok (.getfield 32, 3) := by decide +kernel
theorem dX0_beginLine_42 : decode cX0_beginLine 42 = .ok (.invokevirtual 108, 3) := by decide +kernel
theorem dX7_next_0 : decode cX7_next 0 = .ok (.aload_n 0, 1) := by decide +kernel
theorem dX7_next_1 : decode cX7_next 1 = .ok (.getfield 19, 3) := by decide +kernel
theorem dX7_next_4 : decode cX7_next 4 = .ok (.aload_n 0, 1) := by decide +kernel
theorem dX7_next_5 : decode cX7_next 5 = .ok (.getfield 22, 3) := by decide +kernel
theorem dX7_next_8 : decode cX7_next 8 = .ok (.if_icmp .ge 30, 3) := by decide +kernel
theorem dX7_next_38 : decode cX7_next 38 = .ok (.aload_n 0, 1) := by decide +kernel
theorem dX7_next_39 : decode cX7_next 39 = .ok (.aload_n 0, 1) := by decide +kernel
theorem dX7_next_40 : decode cX7_next 40 = .ok (.getfield 19, 3) := by decide +kernel
theorem dX7_next_43 : decode cX7_next 43 = .ok (.putfield 25, 3) := by decide +kernel
theorem dX7_next_46 : decode cX7_next 46 = .ok (.aload_n 0, 1) := by decide +kernel
theorem dX7_next_47 : decode cX7_next 47 = .ok (.iconst (-1), 1) := by decide +kernel
theorem dX7_next_48 : decode cX7_next 48 = .ok (.putfield 28, 3) := by decide +kernel
theorem dX7_next_51 : decode cX7_next 51 = .ok (.aload_n 0, 1) := by decide +kernel
theorem dX7_next_52 : decode cX7_next 52 = .ok (.getfield 19, 3) := by decide +kernel
theorem dX7_next_55 : decode cX7_next 55 = .ok (.aload_n 0, 1) := by decide +kernel
theorem dX7_next_56 : decode cX7_next 56 = .ok (.getfield 22, 3) := by decide +kernel
theorem dX7_next_59 : decode cX7_next 59 = .ok (.if_icmp .lt 11, 3) := by decide +kernel
theorem dX7_next_62 : decode cX7_next 62 = .ok (.aload_n 0, 1) := by decide +kernel
theorem dX7_next_63 : decode cX7_next 63 = .ok (.sipush 256, 3) := by decide +kernel
theorem dX7_next_66 : decode cX7_next 66 = .ok (.putfield 31, 3) := by decide +kernel
theorem dX7_next_69 : decode cX7_next 69 = .ok (.return_, 1) := by decide +kernel
theorem dX0_beginLine_45 : decode cX0_beginLine 45 = .ok (.return_, 1) := by decide +kernel
theorem dX0_readLines_37 : decode cX0_readLines 37 = .ok (.aload_n 0, 1) := by decide +kernel
theorem dX0_readLines_38 : decode cX0_readLines 38 = .ok (.invokevirtual 67, 3) := by decide +kernel
theorem dX0_readName_0 : decode cX0_readName 0 = .ok (.aload_n 0, 1) := by decide +kernel
theorem dX0_readName_1 : decode cX0_readName 1 = .ok (.getfield 32, 3) := by decide +kernel
theorem dX0_readName_4 : decode cX0_readName 4 = .ok (.getfield 118, 3) := by decide +kernel
theorem dX0_readName_7 : decode cX0_readName 7 = .ok (.sipush 257, 3) := by decide +kernel
theorem dX0_readName_10 : decode cX0_readName 10 = .ok (.if_icmp .eq 5, 3) := by decide +kernel
theorem dX0_readName_13 : decode cX0_readName 13 = .ok (.iconst 1, 1) := by decide +kernel
theorem dX0_readName_14 : decode cX0_readName 14 = .ok (.ireturn, 1) := by decide +kernel
theorem dX0_readLines_41 : decode cX0_readLines 41 = .ok (.ifCond .eq 42, 3) := by decide +kernel
theorem dX0_readLines_44 : decode cX0_readLines 44 = .ok (.aload_n 0, 1) := by decide +kernel
theorem dX0_readLines_45 : decode cX0_readLines 45 = .ok (.invokevirtual 71, 3) := by decide +kernel
theorem dX0_readWord_0 : decode cX0_readWord 0 = .ok (.aload_n 0, 1) := by decide +kernel
theorem dX0_readWord_1 : decode cX0_readWord 1 = .ok (.getfield 98, 3) := by decide +kernel
theorem dX0_readWord_4 : decode cX0_readWord 4 = .ok (.ifCond .eq 8, 3) := by decide +kernel
theorem dX0_readWord_12 : decode cX0_readWord 12 = .ok (.aload_n 0, 1) := by decide +kernel
theorem dX0_readWord_13 : decode cX0_readWord 13 = .ok (.getfield 32, 3) := by decide +kernel
theorem dX0_readWord_16 : decode cX0_readWord 16 = .ok (.getfield 118, 3) := by decide +kernel
theorem dX0_readWord_19 : decode cX0_readWord 19 = .ok (.sipush 258, 3) := by decide +kernel
theorem dX0_readWord_22 : decode cX0_readWord 22 = .ok (.if_icmp .eq 5, 3) := by decide +kernel
theorem dX0_readWord_25 : decode cX0_readWord 25 = .ok (.iconst 1, 1) := by decide +kernel
theorem dX0_readWord_26 : decode cX0_readWord 26 = .ok (.ireturn, 1) := by decide +kernel
theorem dX0_readLines_48 : decode cX0_readLines 48 = .ok (.ifCond .eq 35, 3) := by decide +kernel
theorem dX0_readLines_51 : decode cX0_readLines 51 = .ok (.aload_n 0, 1) := by decide +kernel
theorem dX0_readLines_52 : decode cX0_readLines 52 = .ok (.invokevirtual 74, 3) := by decide +kernel
theorem dX0_readRemark_0 : decode cX0_readRemark 0 = .ok (.aload_n 0, 1) := by decide +kernel
theorem dX0_readRemark_1 : decode cX0_readRemark 1 = .ok (.getfield 32, 3) := by decide +kernel
theorem dX0_readRemark_4 : decode cX0_readRemark 4 = .ok (.getfield 118, 3) := by decide +kernel
theorem dX0_readRemark_7 : decode cX0_readRemark 7 = .ok (.sipush 256, 3) := by decide +kernel
theorem dX0_readRemark_10 : decode cX0_readRemark 10 = .ok (.if_icmp .eq 22, 3) := by decide +kernel
theorem dX0_readRemark_32 : decode cX0_readRemark 32 = .ok (.iconst 1, 1) := by decide +kernel
theorem dX0_readRemark_33 : decode cX0_readRemark 33 = .ok (.goto 4, 3) := by decide +kernel
theorem dX0_readRemark_37 : decode cX0_readRemark 37 = .ok (.ireturn, 1) := by decide +kernel
theorem dX0_readLines_55 : decode cX0_readLines 55 = .ok (.ifCond .eq 28, 3) := by decide +kernel
theorem dX0_readLines_58 : decode cX0_readLines 58 = .ok (.iload_n 1, 1) := by decide +kernel
theorem dX0_readLines_59 : decode cX0_readLines 59 = .ok (.ifCond .eq 13, 3) := by decide +kernel
theorem dX0_readLines_72 : decode cX0_readLines 72 = .ok (.aload_n 0, 1) := by decide +kernel
theorem dX0_readLines_73 : decode cX0_readLines 73 = .ok (.invokevirtual 80, 3) := by decide +kernel
theorem dX0_checkFirst_0 : decode cX0_checkFirst 0 = .ok (.aload_n 0, 1) := by decide +kernel
theorem dX0_checkFirst_1 : decode cX0_checkFirst 1 = .ok (.getfield 95, 3) := by decide +kernel
theorem dX0_checkFirst_4 : decode cX0_checkFirst 4 = .ok (.iconst (-1), 1) := by decide +kernel
theorem dX0_checkFirst_5 : decode cX0_checkFirst 5 = .ok (.if_icmp .eq 7, 3) := by decide +kernel
theorem dX0_checkFirst_12 : decode cX0_checkFirst 12 = .ok (.iconst 0, 1) := by decide +kernel
theorem dX0_checkFirst_13 : decode cX0_checkFirst 13 = .ok (.istore_n 1, 1) := by decide +kernel
theorem dX0_checkFirst_14 : decode cX0_checkFirst 14 = .ok (.iload_n 1, 1) := by decide +kernel
theorem dX0_checkFirst_15 : decode cX0_checkFirst 15 = .ok (.ifCond .eq 36, 3) := by decide +kernel
theorem dX0_checkFirst_51 : decode cX0_checkFirst 51 = .ok (.iload_n 1, 1) := by decide +kernel
theorem dX0_checkFirst_52 : decode cX0_checkFirst 52 = .ok (.ifCond .eq 24, 3) := by decide +kernel
theorem dX0_checkFirst_76 : decode cX0_checkFirst 76 = .ok (.aload_n 0, 1) := by decide +kernel
theorem dX0_checkFirst_77 : decode cX0_checkFirst 77 = .ok (.getfield 98, 3) := by decide +kernel
theorem dX0_checkFirst_80 : decode cX0_checkFirst 80 = .ok (.ifCond .ne 21, 3) := by decide +kernel
theorem dX0_checkFirst_83 : decode cX0_checkFirst 83 = .ok (.aload_n 0, 1) := by decide +kernel
theorem dX0_checkFirst_84 : decode cX0_checkFirst 84 = .ok (.getfield 83, 3) := by decide +kernel
theorem dX0_checkFirst_87 : decode cX0_checkFirst 87 = .ok (.bipush 80, 2) := by decide +kernel
theorem dX0_checkFirst_89 : decode cX0_checkFirst 89 = .ok (.if_icmp .eq 12, 3) := by decide +kernel
theorem dX0_checkFirst_92 : decode cX0_checkFirst 92 = .ok (.aload_n 0, 1) := by decide +kernel
theorem dX0_checkFirst_93 : decode cX0_checkFirst 93 = .ok (.getfield 83, 3) := by decide +kernel
theorem dX0_checkFirst_96 : decode cX0_checkFirst 96 = .ok (.bipush 81, 2) := by decide +kernel
theorem dX0_checkFirst_98 : decode cX0_checkFirst 98 = .ok (.if_icmp .ne 7, 3) := by decide +kernel
theorem dX0_checkFirst_105 : decode cX0_checkFirst 105 = .ok (.iconst 0, 1) := by decide +kernel
theorem dX0_checkFirst_106 : decode cX0_checkFirst 106 = .ok (.istore_n 2, 1) := by decide +kernel
theorem dX0_checkFirst_107 : decode cX0_checkFirst 107 = .ok (.iload_n 2, 1) := by decide +kernel
theorem dX0_checkFirst_108 : decode cX0_checkFirst 108 = .ok (.ifCond .eq 21, 3) := by decide +kernel
theorem dX0_checkFirst_129 : decode cX0_checkFirst 129 = .ok (.aload_n 0, 1) := by decide +kernel
theorem dX0_checkFirst_130 : decode cX0_checkFirst 130 = .ok (.getfield 83, 3) := by decide +kernel
theorem dX0_checkFirst_133 : decode cX0_checkFirst 133 = .ok (.bipush 80, 2) := by decide +kernel
theorem dX0_checkFirst_135 : decode cX0_checkFirst 135 = .ok (.if_icmp .ne 20, 3) := by decide +kernel
theorem dX0_checkFirst_155 : decode cX0_checkFirst 155 = .ok (.aload_n 0, 1) := by decide +kernel
theorem dX0_checkFirst_156 : decode cX0_checkFirst 156 = .ok (.getfield 83, 3) := by decide +kernel
theorem dX0_checkFirst_159 : decode cX0_checkFirst 159 = .ok (.bipush 81, 2) := by decide +kernel
theorem dX0_checkFirst_161 : decode cX0_checkFirst 161 = .ok (.if_icmp .ne 30, 3) := by decide +kernel
theorem dX0_checkFirst_191 : decode cX0_checkFirst 191 = .ok (.aload_n 0, 1) := by decide +kernel
theorem dX0_checkFirst_192 : decode cX0_checkFirst 192 = .ok (.invokevirtual 193, 3) := by decide +kernel
theorem dX0_leaveSpace_0 : decode cX0_leaveSpace 0 = .ok (.aload_n 0, 1) := by decide +kernel
theorem dX0_leaveSpace_1 : decode cX0_leaveSpace 1 = .ok (.getfield 83, 3) := by decide +kernel
theorem dX0_leaveSpace_4 : decode cX0_leaveSpace 4 = .ok (.bipush 81, 2) := by decide +kernel
theorem dX0_leaveSpace_6 : decode cX0_leaveSpace 6 = .ok (.if_icmp .ne 11, 3) := by decide +kernel
theorem dX0_leaveSpace_17 : decode cX0_leaveSpace 17 = .ok (.return_, 1) := by decide +kernel
theorem dX0_checkFirst_195 : decode cX0_checkFirst 195 = .ok (.aload_n 0, 1) := by decide +kernel
theorem dX0_checkFirst_196 : decode cX0_checkFirst 196 = .ok (.getfield 55, 3) := by decide +kernel
theorem dX0_checkFirst_199 : decode cX0_checkFirst 199 = .ok (.aload_n 0, 1) := by decide +kernel
theorem dX0_checkFirst_200 : decode cX0_checkFirst 200 = .ok (.getfield 89, 3) := by decide +kernel
theorem dX0_checkFirst_203 : decode cX0_checkFirst 203 = .ok (.iadd, 1) := by decide +kernel
theorem dX0_checkFirst_204 : decode cX0_checkFirst 204 = .ok (.sipush 4080, 3) := by decide +kernel
theorem dX0_checkFirst_207 : decode cX0_checkFirst 207 = .ok (.if_icmp .le 13, 3) := by decide +kernel
theorem dX0_checkFirst_220 : decode cX0_checkFirst 220 = .ok (.iload_n 1, 1) := by decide +kernel
theorem dX0_checkFirst_221 : decode cX0_checkFirst 221 = .ok (.ifCond .eq 49, 3) := by decide +kernel
theorem dX0_checkFirst_270 : decode cX0_checkFirst 270 = .ok (.iconst 1, 1) := by decide +kernel
theorem dX0_checkFirst_271 : decode cX0_checkFirst 271 = .ok (.ireturn, 1) := by decide +kernel
theorem dX0_readLines_76 : decode cX0_readLines 76 = .ok (.ifCond .eq 7, 3) := by decide +kernel
theorem dX0_readLines_79 : decode cX0_readLines 79 = .ok (.iconst 1, 1) := by decide +kernel
theorem dX0_readLines_80 : decode cX0_readLines 80 = .ok (.goto 4, 3) := by decide +kernel
theorem dX0_readLines_84 : decode cX0_readLines 84 = .ok (.istore 4, 2) := by decide +kernel
theorem dX0_readLines_86 : decode cX0_readLines 86 = .ok (.iload 4, 2) := by decide +kernel
theorem dX0_readLines_88 : decode cX0_readLines 88 = .ok (.ifCond .ne 5, 3) := by decide +kernel
theorem dX0_readLines_93 : decode cX0_readLines 93 = .ok (.aload_n 0, 1) := by decide +kernel
theorem dX0_readLines_94 : decode cX0_readLines 94 = .ok (.aload_n 0, 1) := by decide +kernel
theorem dX0_readLines_95 : decode cX0_readLines 95 = .ok (.getfield 83, 3) := by decide +kernel
theorem dX0_readLines_98 : decode cX0_readLines 98 = .ok (.bipush 80, 2) := by decide +kernel
theorem dX0_readLines_100 : decode cX0_readLines 100 = .ok (.if_icmp .ne 10, 3) := by decide +kernel
theorem dX0_readLines_110 : decode cX0_readLines 110 = .ok (.aload_n 0, 1) := by decide +kernel
theorem dX0_readLines_111 : decode cX0_readLines 111 = .ok (.getfield 55, 3) := by decide +kernel
theorem dX0_readLines_114 : decode cX0_readLines 114 = .ok (.aload_n 0, 1) := by decide +kernel
theorem dX0_readLines_115 : decode cX0_readLines 115 = .ok (.getfield 89, 3) := by decide +kernel
theorem dX0_readLines_118 : decode cX0_readLines 118 = .ok (.iadd, 1) := by decide +kernel
theorem dX0_readLines_119 : decode cX0_readLines 119 = .ok (.putfield 55, 3) := by decide +kernel
theorem dX0_readLines_122 : decode cX0_readLines 122 = .ok (.aload_n 0, 1) := by decide +kernel
theorem dX0_readLines_123 : decode cX0_readLines 123 = .ok (.getfield 32, 3) := by decide +kernel
theorem dX0_readLines_126 : decode cX0_readLines 126 = .ok (.getfield 92, 3) := by decide +kernel
theorem dX0_readLines_129 : decode cX0_readLines 129 = .ok (.iconst 1, 1) := by decide +kernel
theorem dX0_readLines_130 : decode cX0_readLines 130 = .ok (.iadd, 1) := by decide +kernel
theorem dX0_readLines_131 : decode cX0_readLines 131 = .ok (.istore_n 2, 1) := by decide +kernel
theorem dX0_readLines_132 : decode cX0_readLines 132 = .ok (.iinc 3 1, 3) := by decide +kernel
theorem dX0_readLines_135 : decode cX0_readLines 135 = .ok (.goto (-121), 3) := by decide +kernel
theorem dX0_readLines_138 : decode cX0_readLines 138 = .ok (.iconst 1, 1) := by decide +kernel
theorem dX0_readLines_139 : decode cX0_readLines 139 = .ok (.ireturn, 1) := by decide +kernel
theorem dX8_assemble_15 : decode cX8_assemble 15 = .ok (.ifCond .eq 18, 3) := by decide +kernel
theorem dX8_assemble_18 : decode cX8_assemble 18 = .ok (.aload_n 0, 1) := by decide +kernel
theorem dX8_assemble_19 : decode cX8_assemble 19 = .ok (.getfield 60, 3) := by decide +kernel
theorem dX8_assemble_22 : decode cX8_assemble 22 = .ok (.iconst 1, 1) := by decide +kernel
theorem dX8_assemble_23 : decode cX8_assemble 23 = .ok (.invokevirtual 89, 3) := by decide +kernel
theorem dX0_readLines_62 : decode cX0_readLines 62 = .ok (.aload_n 0, 1) := by decide +kernel
theorem dX0_readLines_63 : decode cX0_readLines 63 = .ok (.invokevirtual 77, 3) := by decide +kernel
theorem dX0_checkSecond_0 : decode cX0_checkSecond 0 = .ok (.aload_n 0, 1) := by decide +kernel
theorem dX0_checkSecond_1 : decode cX0_checkSecond 1 = .ok (.getfield 101, 3) := by decide +kernel
theorem dX0_checkSecond_4 : decode cX0_checkSecond 4 = .ok (.iconst (-1), 1) := by decide +kernel
theorem dX0_checkSecond_5 : decode cX0_checkSecond 5 = .ok (.if_icmp .eq 13, 3) := by decide +kernel
theorem dX0_checkSecond_18 : decode cX0_checkSecond 18 = .ok (.aload_n 0, 1) := by decide +kernel
theorem dX0_checkSecond_19 : decode cX0_checkSecond 19 = .ok (.getfield 104, 3) := by decide +kernel
theorem dX0_checkSecond_22 : decode cX0_checkSecond 22 = .ok (.iconst (-1), 1) := by decide +kernel
theorem dX0_checkSecond_23 : decode cX0_checkSecond 23 = .ok (.if_icmp .eq 13, 3) := by decide +kernel
theorem dX0_checkSecond_36 : decode cX0_checkSecond 36 = .ok (.aload_n 0, 1) := by decide +kernel
theorem dX0_checkSecond_37 : decode cX0_checkSecond 37 = .ok (.invokevirtual 193, 3) := by decide +kernel
theorem dX0_checkSecond_40 : decode cX0_checkSecond 40 = .ok (.iconst 1, 1) := by decide +kernel
theorem dX0_checkSecond_41 : decode cX0_checkSecond 41 = .ok (.ireturn, 1) := by decide +kernel
theorem dX0_readLines_66 : decode cX0_readLines 66 = .ok (.ifCond .eq 17, 3) := by decide +kernel
theorem dX0_readLines_69 : decode cX0_readLines 69 = .ok (.goto 10, 3) := by decide +kernel
theorem dX8_assemble_26 : decode cX8_assemble 26 = .ok (.ifCond .eq 7, 3) := by decide +kernel
theorem dX8_assemble_29 : decode cX8_assemble 29 = .ok (.iconst 1, 1) := by decide +kernel
theorem dX8_assemble_30 : decode cX8_assemble 30 = .ok (.goto 4, 3) := by decide +kernel
theorem dX8_assemble_34 : decode cX8_assemble 34 = .ok (.istore_n 1, 1) := by decide +kernel
theorem dX8_assemble_35 : decode cX8_assemble 35 = .ok (.aload_n 0, 1) := by decide +kernel
theorem dX8_assemble_36 : decode cX8_assemble 36 = .ok (.getfield 51, 3) := by decide +kernel
theorem dX8_assemble_39 : decode cX8_assemble 39 = .ok (.iconst 0, 1) := by decide +kernel
theorem dX8_assemble_40 : decode cX8_assemble 40 = .ok (.putfield 82, 3) := by decide +kernel
theorem dX8_assemble_43 : decode cX8_assemble 43 = .ok (.iload_n 1, 1) := by decide +kernel
theorem dX8_assemble_44 : decode cX8_assemble 44 = .ok (.ifCond .ne 5, 3) := by decide +kernel
theorem dX8_assemble_49 : decode cX8_assemble 49 = .ok (.aload_n 0, 1) := by decide +kernel
theorem dX8_assemble_50 : decode cX8_assemble 50 = .ok (.getfield 60, 3) := by decide +kernel
theorem dX8_assemble_53 : decode cX8_assemble 53 = .ok (.aload_n 0, 1) := by decide +kernel
theorem dX8_assemble_54 : decode cX8_assemble 54 = .ok (.getfield 13, 3) := by decide +kernel
theorem dX8_assemble_57 : decode cX8_assemble 57 = .ok (.invokevirtual 93, 3) := by decide +kernel
theorem dX0_settle_0 : decode cX0_settle 0 = .ok (.aload_n 0, 1) := by decide +kernel
theorem dX0_settle_1 : decode cX0_settle 1 = .ok (.getfield 9, 3) := by decide +kernel
theorem dX0_settle_4 : decode cX0_settle 4 = .ok (.iconst 0, 1) := by decide +kernel
theorem dX0_settle_5 : decode cX0_settle 5 = .ok (.aload_n 1, 1) := by decide +kernel
theorem dX0_settle_6 : decode cX0_settle 6 = .ok (.iconst 0, 1) := by decide +kernel
theorem dX0_settle_7 : decode cX0_settle 7 = .ok (.sipush 4096, 3) := by decide +kernel
theorem dX0_settle_10 : decode cX0_settle 10 = .ok (.invokestatic 45, 3) := by decide +kernel
theorem dX0_settle_13 : decode cX0_settle 13 = .ok (.aload_n 0, 1) := by decide +kernel
theorem dX0_settle_14 : decode cX0_settle 14 = .ok (.getfield 22, 3) := by decide +kernel
theorem dX0_settle_17 : decode cX0_settle 17 = .ok (.astore_n 2, 1) := by decide +kernel
theorem dX0_settle_18 : decode cX0_settle 18 = .ok (.aload_n 0, 1) := by decide +kernel
theorem dX0_settle_19 : decode cX0_settle 19 = .ok (.aload_n 0, 1) := by decide +kernel
theorem dX0_settle_20 : decode cX0_settle 20 = .ok (.getfield 18, 3) := by decide +kernel
theorem dX0_settle_23 : decode cX0_settle 23 = .ok (.putfield 22, 3) := by decide +kernel
theorem dX0_settle_26 : decode cX0_settle 26 = .ok (.aload_n 0, 1) := by decide +kernel
theorem dX0_settle_27 : decode cX0_settle 27 = .ok (.aload_n 2, 1) := by decide +kernel
theorem dX0_settle_28 : decode cX0_settle 28 = .ok (.putfield 18, 3) := by decide +kernel
theorem dX0_settle_31 : decode cX0_settle 31 = .ok (.return_, 1) := by decide +kernel
theorem dX8_assemble_60 : decode cX8_assemble 60 = .ok (.aload_n 0, 1) := by decide +kernel
theorem dX8_assemble_61 : decode cX8_assemble 61 = .ok (.getfield 37, 3) := by decide +kernel
theorem dX8_assemble_64 : decode cX8_assemble 64 = .ok (.invokevirtual 71, 3) := by decide +kernel
theorem dX8_assemble_67 : decode cX8_assemble 67 = .ok (.aload_n 0, 1) := by decide +kernel
theorem dX8_assemble_68 : decode cX8_assemble 68 = .ok (.getfield 60, 3) := by decide +kernel
theorem dX8_assemble_71 : decode cX8_assemble 71 = .ok (.getfield 96, 3) := by decide +kernel
theorem dX8_assemble_74 : decode cX8_assemble 74 = .ok (.ireturn, 1) := by decide +kernel
set_option maxHeartbeats 4000000 in
set_option maxRecDepth 100000 in
theorem c_X0_begin_a1 (l : Launch) (D : va_G) (cA cB : ClassId) (h0 : Nat) (h1 : Nat) (h2 : Nat) (h3 : Nat) (h4 : Nat) (h5 : Nat) (h6 : Nat) (h7 : Nat) (h8 : Nat) (h9 : Nat) (h10 : Nat) (h11 : Nat) (h12 : Nat) (h13 : Nat)  : CV l yX0_begin cX0_begin 1 none 1 23 0 0 D cA cB [.ref h0] [(h0, .inr (0, [.ref h1, .ref h2, .ref h3, .ref h4, .int (-1), .int (-1), .int 0, .int 0, .int 0, .int 0, .int 0, .int 0, .int 0, .int 0, .int 0, .int 0, .int 0, .int 0])), (h1, .inr (7, [.ref h5, .int 0, .int 0, .int 0, .int 0, .int 0, .int 0, .int 0, .int 0])), (h2, .inl (cA, 4096, .inl (fun _ => 0))), (h3, .inr (2, [.ref h6, .ref h7, .ref h8, .ref h9, .int 0])), (h4, .inr (2, [.ref h10, .ref h11, .ref h12, .ref h13, .int 0])), (h5, .inl (cA, 6000, .inl (fun _ => 0))), (h6, .inl (cA, 60, .inl (fun _ => 0))), (h7, .inl (cA, 60, .inl (fun _ => 0))), (h8, .inl (cA, 60, .inl (fun _ => 0))), (h9, .inl (cA, 60, .inl (fun _ => 0))), (h10, .inl (cA, 60, .inl (fun _ => 0))), (h11, .inl (cA, 60, .inl (fun _ => 0))), (h12, .inl (cA, 60, .inl (fun _ => 0))), (h13, .inl (cA, 60, .inl (fun _ => 0)))] (fun W1 => ∃ (o0 : Nat → Int32), (∀ j, j < 4096 → o0 j = 0) ∧ W1 = [(h0, .inr (0, [.ref h1, .ref h2, .ref h3, .ref h4, .int 0, .int (-1), .int 0, .int 0, .int 0, .int 0, .int 0, .int 0, .int 0, .int 0, .int 0, .int 0, .int 0, .int 0])), (h1, .inr (7, [.ref h5, .int 0, .int 0, .int 0, .int 0, .int 0, .int 0, .int 0, .int 0])), (h3, .inr (2, [.ref h6, .ref h7, .ref h8, .ref h9, .int 0])), (h4, .inr (2, [.ref h10, .ref h11, .ref h12, .ref h13, .int 0])), (h5, .inl (cA, 6000, .inl (fun _ => 0))), (h6, .inl (cA, 60, .inl (fun _ => 0))), (h7, .inl (cA, 60, .inl (fun _ => 0))), (h8, .inl (cA, 60, .inl (fun _ => 0))), (h9, .inl (cA, 60, .inl (fun _ => 0))), (h10, .inl (cA, 60, .inl (fun _ => 0))), (h11, .inl (cA, 60, .inl (fun _ => 0))), (h12, .inl (cA, 60, .inl (fun _ => 0))), (h13, .inl (cA, 60, .inl (fun _ => 0))), (h2, .inl (cA, 4096, .inl o0))]) := by
  refine mkV (lv0 := [(0, .ref h0)]) (by decide) (Nat.le_of_ble_eq_true rfl) rfl ?_
  intro p e s m below meth c A ls X hr hlocks hnm hE hA hP hD hS hl
  have hx := X.1
  have hb := X.2.1
  refine lv_aload_n hx hb dX0_begin_0 rfl (lv_at hl 0 rfl) ?_
  refine k_get (C := RX0) (T := TX0) (N := 18) (ci := 0) (v := .ref h3) X hE hP 0 rfl rfl iX0 2 (by decide) w_36 rfl dX0_begin_1 ?_
  refine lv_iconst (v := 0) hx hb dX0_begin_4 (by decide) ?_
  refine k_putN (C := RX2) (T := TX2) (N := 5) (ci := 2) (v := .int 0) (ty := .int) X hE hP hD hS 3 rfl rfl iX2 tyX2 tyX2_ok nmX2 4 (by decide) nw_22 rfl (by decide +kernel) rfl rfl (Nat.le_of_ble_eq_true rfl) [(h0, .inr (0, [.ref h1, .ref h2, .ref h3, .ref h4, .int (-1), .int (-1), .int 0, .int 0, .int 0, .int 0, .int 0, .int 0, .int 0, .int 0, .int 0, .int 0, .int 0, .int 0])), (h1, .inr (7, [.ref h5, .int 0, .int 0, .int 0, .int 0, .int 0, .int 0, .int 0, .int 0])), (h2, .inl (cA, 4096, .inl (fun _ => 0))), (h3, .inr (2, [.ref h6, .ref h7, .ref h8, .ref h9, .int 0])), (h4, .inr (2, [.ref h10, .ref h11, .ref h12, .ref h13, .int 0])), (h5, .inl (cA, 6000, .inl (fun _ => 0))), (h6, .inl (cA, 60, .inl (fun _ => 0))), (h7, .inl (cA, 60, .inl (fun _ => 0))), (h8, .inl (cA, 60, .inl (fun _ => 0))), (h9, .inl (cA, 60, .inl (fun _ => 0))), (h10, .inl (cA, 60, .inl (fun _ => 0))), (h11, .inl (cA, 60, .inl (fun _ => 0))), (h12, .inl (cA, 60, .inl (fun _ => 0))), (h13, .inl (cA, 60, .inl (fun _ => 0)))] rfl dX0_begin_5 (fun H locs hP hD hS => ?_)
  refine lv_aload_n hx hb dX0_begin_8 rfl (lv_at hl 0 rfl) ?_
  refine lv_iconst (v := 0) hx hb dX0_begin_9 (by decide) ?_
  refine k_put (C := RX0) (T := TX0) (N := 18) (ci := 0) (v := .int 0) (ty := .int) X hE hP hD hS 0 rfl rfl iX0 tyX0 tyX0_ok nmX0 4 (by decide) w_38 rfl (by decide +kernel) rfl rfl (Nat.le_of_ble_eq_true rfl) [(h0, .inr (0, [.ref h1, .ref h2, .ref h3, .ref h4, .int 0, .int (-1), .int 0, .int 0, .int 0, .int 0, .int 0, .int 0, .int 0, .int 0, .int 0, .int 0, .int 0, .int 0])), (h1, .inr (7, [.ref h5, .int 0, .int 0, .int 0, .int 0, .int 0, .int 0, .int 0, .int 0])), (h2, .inl (cA, 4096, .inl (fun _ => 0))), (h3, .inr (2, [.ref h6, .ref h7, .ref h8, .ref h9, .int 0])), (h4, .inr (2, [.ref h10, .ref h11, .ref h12, .ref h13, .int 0])), (h5, .inl (cA, 6000, .inl (fun _ => 0))), (h6, .inl (cA, 60, .inl (fun _ => 0))), (h7, .inl (cA, 60, .inl (fun _ => 0))), (h8, .inl (cA, 60, .inl (fun _ => 0))), (h9, .inl (cA, 60, .inl (fun _ => 0))), (h10, .inl (cA, 60, .inl (fun _ => 0))), (h11, .inl (cA, 60, .inl (fun _ => 0))), (h12, .inl (cA, 60, .inl (fun _ => 0))), (h13, .inl (cA, 60, .inl (fun _ => 0)))] rfl dX0_begin_10 (fun H locs hP hD hS => ?_)
  refine lv_aload_n hx hb dX0_begin_13 rfl (lv_at hl 0 rfl) ?_
  refine lv_iconst (v := (-1)) hx hb dX0_begin_14 (by decide) ?_
  refine k_put (C := RX0) (T := TX0) (N := 18) (ci := 0) (v := .int (-1)) (ty := .int) X hE hP hD hS 0 rfl rfl iX0 tyX0 tyX0_ok nmX0 5 (by decide) w_39 rfl (by decide +kernel) rfl rfl (Nat.le_of_ble_eq_true rfl) [(h0, .inr (0, [.ref h1, .ref h2, .ref h3, .ref h4, .int 0, .int (-1), .int 0, .int 0, .int 0, .int 0, .int 0, .int 0, .int 0, .int 0, .int 0, .int 0, .int 0, .int 0])), (h1, .inr (7, [.ref h5, .int 0, .int 0, .int 0, .int 0, .int 0, .int 0, .int 0, .int 0])), (h2, .inl (cA, 4096, .inl (fun _ => 0))), (h3, .inr (2, [.ref h6, .ref h7, .ref h8, .ref h9, .int 0])), (h4, .inr (2, [.ref h10, .ref h11, .ref h12, .ref h13, .int 0])), (h5, .inl (cA, 6000, .inl (fun _ => 0))), (h6, .inl (cA, 60, .inl (fun _ => 0))), (h7, .inl (cA, 60, .inl (fun _ => 0))), (h8, .inl (cA, 60, .inl (fun _ => 0))), (h9, .inl (cA, 60, .inl (fun _ => 0))), (h10, .inl (cA, 60, .inl (fun _ => 0))), (h11, .inl (cA, 60, .inl (fun _ => 0))), (h12, .inl (cA, 60, .inl (fun _ => 0))), (h13, .inl (cA, 60, .inl (fun _ => 0)))] rfl dX0_begin_15 (fun H locs hP hD hS => ?_)
  refine lv_aload_n hx hb dX0_begin_18 rfl (lv_at hl 0 rfl) ?_
  refine k_get (C := RX0) (T := TX0) (N := 18) (ci := 0) (v := .ref h2) X hE hP 0 rfl rfl iX0 1 (by decide) w_30 rfl dX0_begin_19 ?_
  refine lv_iconst (v := 0) hx hb dX0_begin_22 (by decide) ?_
  refine kSv (n3 := 2) (As := [.ref h2, .int 0]) (rest := []) X hl.1 hE hP hD hS hA [(h2, .inl (cA, 4096, .inl (fun _ => 0)))] [(h0, .inr (0, [.ref h1, .ref h2, .ref h3, .ref h4, .int 0, .int (-1), .int 0, .int 0, .int 0, .int 0, .int 0, .int 0, .int 0, .int 0, .int 0, .int 0, .int 0, .int 0])), (h1, .inr (7, [.ref h5, .int 0, .int 0, .int 0, .int 0, .int 0, .int 0, .int 0, .int 0])), (h3, .inr (2, [.ref h6, .ref h7, .ref h8, .ref h9, .int 0])), (h4, .inr (2, [.ref h10, .ref h11, .ref h12, .ref h13, .int 0])), (h5, .inl (cA, 6000, .inl (fun _ => 0))), (h6, .inl (cA, 60, .inl (fun _ => 0))), (h7, .inl (cA, 60, .inl (fun _ => 0))), (h8, .inl (cA, 60, .inl (fun _ => 0))), (h9, .inl (cA, 60, .inl (fun _ => 0))), (h10, .inl (cA, 60, .inl (fun _ => 0))), (h11, .inl (cA, 60, .inl (fun _ => 0))), (h12, .inl (cA, 60, .inl (fun _ => 0))), (h13, .inl (cA, 60, .inl (fun _ => 0)))] [2] [0, 1, 3, 4, 5, 6, 7, 8, 9, 10, 11, 12, 13] rfl rfl rfl (by decide) (by decide) (by decide) (c_fill l D cA cB h2 4096 0 (fun _ => 0) (by first | assumption | decide | rfl | omega)) w_52 w_53 w_232 w_54 (by decide +kernel) rfl rfl (Nat.le_of_ble_eq_true rfl) ⟨(Nat.le_of_ble_eq_true rfl), (Nat.le_of_ble_eq_true rfl)⟩ ⟨(Nat.le_of_ble_eq_true rfl), (Nat.le_of_ble_eq_true rfl)⟩ dX0_begin_23 (fun W1 H locs hw hP hD hS => ?_)
  obtain ⟨g_1, hf_2, rfl⟩ := hw
  have hP : va_P D classes [(h0, .inr (0, [.ref h1, .ref h2, .ref h3, .ref h4, .int 0, .int (-1), .int 0, .int 0, .int 0, .int 0, .int 0, .int 0, .int 0, .int 0, .int 0, .int 0, .int 0, .int 0])), (h1, .inr (7, [.ref h5, .int 0, .int 0, .int 0, .int 0, .int 0, .int 0, .int 0, .int 0])), (h3, .inr (2, [.ref h6, .ref h7, .ref h8, .ref h9, .int 0])), (h4, .inr (2, [.ref h10, .ref h11, .ref h12, .ref h13, .int 0])), (h5, .inl (cA, 6000, .inl (fun _ => 0))), (h6, .inl (cA, 60, .inl (fun _ => 0))), (h7, .inl (cA, 60, .inl (fun _ => 0))), (h8, .inl (cA, 60, .inl (fun _ => 0))), (h9, .inl (cA, 60, .inl (fun _ => 0))), (h10, .inl (cA, 60, .inl (fun _ => 0))), (h11, .inl (cA, 60, .inl (fun _ => 0))), (h12, .inl (cA, 60, .inl (fun _ => 0))), (h13, .inl (cA, 60, .inl (fun _ => 0))), (h2, .inl (cA, 4096, .inl g_1))] H := hP
  have hD : va_D A [(h0, .inr (0, [.ref h1, .ref h2, .ref h3, .ref h4, .int 0, .int (-1), .int 0, .int 0, .int 0, .int 0, .int 0, .int 0, .int 0, .int 0, .int 0, .int 0, .int 0, .int 0])), (h1, .inr (7, [.ref h5, .int 0, .int 0, .int 0, .int 0, .int 0, .int 0, .int 0, .int 0])), (h3, .inr (2, [.ref h6, .ref h7, .ref h8, .ref h9, .int 0])), (h4, .inr (2, [.ref h10, .ref h11, .ref h12, .ref h13, .int 0])), (h5, .inl (cA, 6000, .inl (fun _ => 0))), (h6, .inl (cA, 60, .inl (fun _ => 0))), (h7, .inl (cA, 60, .inl (fun _ => 0))), (h8, .inl (cA, 60, .inl (fun _ => 0))), (h9, .inl (cA, 60, .inl (fun _ => 0))), (h10, .inl (cA, 60, .inl (fun _ => 0))), (h11, .inl (cA, 60, .inl (fun _ => 0))), (h12, .inl (cA, 60, .inl (fun _ => 0))), (h13, .inl (cA, 60, .inl (fun _ => 0))), (h2, .inl (cA, 4096, .inl g_1))] := hD
  exact endV X hr hlocks hP hD hS dX0_begin_26 ⟨g_1, hf_2, rfl⟩
set_option maxHeartbeats 4000000 in
set_option maxRecDepth 100000 in
theorem c_X7_beginLine_a4 (l : Launch) (D : va_G) (cA cB : ClassId) (h0 : Nat) (h1 : Nat)  : CV l yX7_beginLine cX7_beginLine 2 none 0 0 0 0 D cA cB [.ref h0, .int 0] [(h0, .inr (7, [.ref h1, .int 0, .int 0, .int 0, .int 0, .int 0, .int 0, .int 0, .int 0])), (h1, .inl (cA, 6000, .inl (fun _ => 0)))] (fun W1 => W1 = [(h0, .inr (7, [.ref h1, .int 0, .int 0, .int 0, .int 0, .int 0, .int 0, .int 0, .int 0])), (h1, .inl (cA, 6000, .inl (fun _ => 0)))]) := by
  refine mkV (lv0 := [(0, .ref h0), (1, .int 0)]) (by decide) (Nat.le_of_ble_eq_true rfl) rfl ?_
  intro p e s m below meth c A ls X hr hlocks hnm hE hA hP hD hS hl
  have hx := X.1
  have hb := X.2.1
  refine lv_aload_n hx hb dX7_beginLine_0 rfl (lv_at hl 0 rfl) ?_
  refine lv_iload_n hx hb dX7_beginLine_1 rfl (lv_at hl 1 rfl) ?_
  refine k_put (C := RX7) (T := TX7) (N := 9) (ci := 7) (v := .int 0) (ty := .int) X hE hP hD hS 0 rfl rfl iX7 tyX7 tyX7_ok nmX7 3 (by decide) w_245 rfl (by decide +kernel) rfl rfl (Nat.le_of_ble_eq_true rfl) [(h0, .inr (7, [.ref h1, .int 0, .int 0, .int 0, .int 0, .int 0, .int 0, .int 0, .int 0])), (h1, .inl (cA, 6000, .inl (fun _ => 0)))] rfl dX7_beginLine_2 (fun H locs hP hD hS => ?_)
  refine lv_aload_n hx hb dX7_beginLine_5 rfl (lv_at hl 0 rfl) ?_
  refine lv_iload_n hx hb dX7_beginLine_6 rfl (lv_at hl 1 rfl) ?_
  refine k_put (C := RX7) (T := TX7) (N := 9) (ci := 7) (v := .int 0) (ty := .int) X hE hP hD hS 0 rfl rfl iX7 tyX7 tyX7_ok nmX7 2 (by decide) w_246 rfl (by decide +kernel) rfl rfl (Nat.le_of_ble_eq_true rfl) [(h0, .inr (7, [.ref h1, .int 0, .int 0, .int 0, .int 0, .int 0, .int 0, .int 0, .int 0])), (h1, .inl (cA, 6000, .inl (fun _ => 0)))] rfl dX7_beginLine_7 (fun H locs hP hD hS => ?_)
  refine lv_aload_n hx hb dX7_beginLine_10 rfl (lv_at hl 0 rfl) ?_
  refine k_get (C := RX7) (T := TX7) (N := 9) (ci := 7) (v := .int 0) X hE hP 0 rfl rfl iX7 2 (by decide) w_246 rfl dX7_beginLine_11 ?_
  refine lv_aload_n hx hb dX7_beginLine_14 rfl (lv_at hl 0 rfl) ?_
  refine k_get (C := RX7) (T := TX7) (N := 9) (ci := 7) (v := .int 0) X hE hP 0 rfl rfl iX7 1 (by decide) w_144 rfl dX7_beginLine_15 ?_
  refine lv_icmp_ge (tgt := 48) hx hb dX7_beginLine_18 (by decide) (fun c_18 => ?_) (fun c_18 => absurd (by decide) c_18)
  exact endV X hr hlocks hP hD hS dX7_beginLine_48 rfl
set_option maxHeartbeats 4000000 in
set_option maxRecDepth 100000 in
theorem c_X7_next_a5 (l : Launch) (D : va_G) (cA cB : ClassId) (h0 : Nat) (h1 : Nat)  : CV l yX7_next cX7_next 2 none 0 0 0 0 D cA cB [.ref h0] [(h0, .inr (7, [.ref h1, .int 0, .int 0, .int 0, .int 0, .int 0, .int 0, .int 0, .int 0])), (h1, .inl (cA, 6000, .inl (fun _ => 0)))] (fun W1 => W1 = [(h0, .inr (7, [.ref h1, .int 0, .int 0, .int 0, .int 256, .int 0, .int 0, .int 0, .int (-1)])), (h1, .inl (cA, 6000, .inl (fun _ => 0)))]) := by
  refine mkV (lv0 := [(0, .ref h0)]) (by decide) (Nat.le_of_ble_eq_true rfl) rfl ?_
  intro p e s m below meth c A ls X hr hlocks hnm hE hA hP hD hS hl
  have hx := X.1
  have hb := X.2.1
  refine lv_aload_n hx hb dX7_next_0 rfl (lv_at hl 0 rfl) ?_
  refine k_get (C := RX7) (T := TX7) (N := 9) (ci := 7) (v := .int 0) X hE hP 0 rfl rfl iX7 3 (by decide) w_245 rfl dX7_next_1 ?_
  refine lv_aload_n hx hb dX7_next_4 rfl (lv_at hl 0 rfl) ?_
  refine k_get (C := RX7) (T := TX7) (N := 9) (ci := 7) (v := .int 0) X hE hP 0 rfl rfl iX7 2 (by decide) w_246 rfl dX7_next_5 ?_
  refine lv_icmp_ge (tgt := 38) hx hb dX7_next_8 (by decide) (fun c_8 => ?_) (fun c_8 => absurd (by decide) c_8)
  refine lv_aload_n hx hb dX7_next_38 rfl (lv_at hl 0 rfl) ?_
  refine lv_aload_n hx hb dX7_next_39 rfl (lv_at hl 0 rfl) ?_
  refine k_get (C := RX7) (T := TX7) (N := 9) (ci := 7) (v := .int 0) X hE hP 0 rfl rfl iX7 3 (by decide) w_245 rfl dX7_next_40 ?_
  refine k_put (C := RX7) (T := TX7) (N := 9) (ci := 7) (v := .int 0) (ty := .int) X hE hP hD hS 0 rfl rfl iX7 tyX7 tyX7_ok nmX7 5 (by decide) w_251 rfl (by decide +kernel) rfl rfl (Nat.le_of_ble_eq_true rfl) [(h0, .inr (7, [.ref h1, .int 0, .int 0, .int 0, .int 0, .int 0, .int 0, .int 0, .int 0])), (h1, .inl (cA, 6000, .inl (fun _ => 0)))] rfl dX7_next_43 (fun H locs hP hD hS => ?_)
  refine lv_aload_n hx hb dX7_next_46 rfl (lv_at hl 0 rfl) ?_
  refine lv_iconst (v := (-1)) hx hb dX7_next_47 (by decide) ?_
  refine k_put (C := RX7) (T := TX7) (N := 9) (ci := 7) (v := .int (-1)) (ty := .int) X hE hP hD hS 0 rfl rfl iX7 tyX7 tyX7_ok nmX7 8 (by decide) w_252 rfl (by decide +kernel) rfl rfl (Nat.le_of_ble_eq_true rfl) [(h0, .inr (7, [.ref h1, .int 0, .int 0, .int 0, .int 0, .int 0, .int 0, .int 0, .int (-1)])), (h1, .inl (cA, 6000, .inl (fun _ => 0)))] rfl dX7_next_48 (fun H locs hP hD hS => ?_)
  refine lv_aload_n hx hb dX7_next_51 rfl (lv_at hl 0 rfl) ?_
  refine k_get (C := RX7) (T := TX7) (N := 9) (ci := 7) (v := .int 0) X hE hP 0 rfl rfl iX7 3 (by decide) w_245 rfl dX7_next_52 ?_
  refine lv_aload_n hx hb dX7_next_55 rfl (lv_at hl 0 rfl) ?_
  refine k_get (C := RX7) (T := TX7) (N := 9) (ci := 7) (v := .int 0) X hE hP 0 rfl rfl iX7 2 (by decide) w_246 rfl dX7_next_56 ?_
  refine lv_icmp_lt (tgt := 70) hx hb dX7_next_59 (by decide) (fun c_59 => absurd c_59 (by decide)) (fun c_59 => ?_)
  refine lv_aload_n hx hb dX7_next_62 rfl (lv_at hl 0 rfl) ?_
  refine lv_sipush (v := 256) hx hb dX7_next_63 (by decide) ?_
  refine k_put (C := RX7) (T := TX7) (N := 9) (ci := 7) (v := .int 256) (ty := .int) X hE hP hD hS 0 rfl rfl iX7 tyX7 tyX7_ok nmX7 4 (by decide) w_253 rfl (by decide +kernel) rfl rfl (Nat.le_of_ble_eq_true rfl) [(h0, .inr (7, [.ref h1, .int 0, .int 0, .int 0, .int 256, .int 0, .int 0, .int 0, .int (-1)])), (h1, .inl (cA, 6000, .inl (fun _ => 0)))] rfl dX7_next_66 (fun H locs hP hD hS => ?_)
  exact endV X hr hlocks hP hD hS dX7_next_69 rfl
set_option maxHeartbeats 4000000 in
set_option maxRecDepth 100000 in
theorem c_X0_beginLine_a3 (l : Launch) (D : va_G) (cA cB : ClassId) (h0 : Nat) (h1 : Nat) (h2 : Nat) (h3 : Nat) (h4 : Nat) (h5 : Nat) (f1 : Nat → Int32) (h6 : Nat) (h7 : Nat) (h8 : Nat) (h9 : Nat) (h10 : Nat) (h11 : Nat) (h12 : Nat) (h13 : Nat) (z1 : ∀ j, j < 4096 → f1 j = 0) : CV l yX0_beginLine cX0_beginLine 2 none 1 21 0 0 D cA cB [.ref h0, .int 0] [(h0, .inr (0, [.ref h1, .ref h2, .ref h3, .ref h4, .int 0, .int (-1), .int 0, .int 0, .int 0, .int 0, .int 0, .int 0, .int 0, .int 0, .int 0, .int 0, .int 0, .int 0])), (h1, .inr (7, [.ref h5, .int 0, .int 0, .int 0, .int 0, .int 0, .int 0, .int 0, .int 0])), (h2, .inl (cA, 4096, .inl f1)), (h3, .inr (2, [.ref h6, .ref h7, .ref h8, .ref h9, .int 0])), (h4, .inr (2, [.ref h10, .ref h11, .ref h12, .ref h13, .int 0])), (h5, .inl (cA, 6000, .inl (fun _ => 0))), (h6, .inl (cA, 60, .inl (fun _ => 0))), (h7, .inl (cA, 60, .inl (fun _ => 0))), (h8, .inl (cA, 60, .inl (fun _ => 0))), (h9, .inl (cA, 60, .inl (fun _ => 0))), (h10, .inl (cA, 60, .inl (fun _ => 0))), (h11, .inl (cA, 60, .inl (fun _ => 0))), (h12, .inl (cA, 60, .inl (fun _ => 0))), (h13, .inl (cA, 60, .inl (fun _ => 0)))] (fun W1 => W1 = [(h0, .inr (0, [.ref h1, .ref h2, .ref h3, .ref h4, .int 0, .int (-1), .int 0, .int 0, .int (-1), .int 0, .int 0, .int (-1), .int 0, .int 0, .int 0, .int 0, .int (-1), .int (-1)])), (h2, .inl (cA, 4096, .inl f1)), (h3, .inr (2, [.ref h6, .ref h7, .ref h8, .ref h9, .int 0])), (h4, .inr (2, [.ref h10, .ref h11, .ref h12, .ref h13, .int 0])), (h6, .inl (cA, 60, .inl (fun _ => 0))), (h7, .inl (cA, 60, .inl (fun _ => 0))), (h8, .inl (cA, 60, .inl (fun _ => 0))), (h9, .inl (cA, 60, .inl (fun _ => 0))), (h10, .inl (cA, 60, .inl (fun _ => 0))), (h11, .inl (cA, 60, .inl (fun _ => 0))), (h12, .inl (cA, 60, .inl (fun _ => 0))), (h13, .inl (cA, 60, .inl (fun _ => 0))), (h1, .inr (7, [.ref h5, .int 0, .int 0, .int 0, .int 256, .int 0, .int 0, .int 0, .int (-1)])), (h5, .inl (cA, 6000, .inl (fun _ => 0)))]) := by
  refine mkV (lv0 := [(0, .ref h0), (1, .int 0)]) (by decide) (Nat.le_of_ble_eq_true rfl) rfl ?_
  intro p e s m below meth c A ls X hr hlocks hnm hE hA hP hD hS hl
  have hx := X.1
  have hb := X.2.1
  refine lv_aload_n hx hb dX0_beginLine_0 rfl (lv_at hl 0 rfl) ?_
  refine lv_iconst (v := (-1)) hx hb dX0_beginLine_1 (by decide) ?_
  refine k_put (C := RX0) (T := TX0) (N := 18) (ci := 0) (v := .int (-1)) (ty := .int) X hE hP hD hS 0 rfl rfl iX0 tyX0 tyX0_ok nmX0 8 (by decide) w_239 rfl (by decide +kernel) rfl rfl (Nat.le_of_ble_eq_true rfl) [(h0, .inr (0, [.ref h1, .ref h2, .ref h3, .ref h4, .int 0, .int (-1), .int 0, .int 0, .int (-1), .int 0, .int 0, .int 0, .int 0, .int 0, .int 0, .int 0, .int 0, .int 0])), (h1, .inr (7, [.ref h5, .int 0, .int 0, .int 0, .int 0, .int 0, .int 0, .int 0, .int 0])), (h2, .inl (cA, 4096, .inl f1)), (h3, .inr (2, [.ref h6, .ref h7, .ref h8, .ref h9, .int 0])), (h4, .inr (2, [.ref h10, .ref h11, .ref h12, .ref h13, .int 0])), (h5, .inl (cA, 6000, .inl (fun _ => 0))), (h6, .inl (cA, 60, .inl (fun _ => 0))), (h7, .inl (cA, 60, .inl (fun _ => 0))), (h8, .inl (cA, 60, .inl (fun _ => 0))), (h9, .inl (cA, 60, .inl (fun _ => 0))), (h10, .inl (cA, 60, .inl (fun _ => 0))), (h11, .inl (cA, 60, .inl (fun _ => 0))), (h12, .inl (cA, 60, .inl (fun _ => 0))), (h13, .inl (cA, 60, .inl (fun _ => 0)))] rfl dX0_beginLine_2 (fun H locs hP hD hS => ?_)
  refine lv_aload_n hx hb dX0_beginLine_5 rfl (lv_at hl 0 rfl) ?_
  refine lv_iconst (v := 0) hx hb dX0_beginLine_6 (by decide) ?_
  refine k_put (C := RX0) (T := TX0) (N := 18) (ci := 0) (v := .int 0) (ty := .boolean) X hE hP hD hS 0 rfl rfl iX0 tyX0 tyX0_ok nmX0 10 (by decide) w_240 rfl (by decide +kernel) rfl rfl (Nat.le_of_ble_eq_true rfl) [(h0, .inr (0, [.ref h1, .ref h2, .ref h3, .ref h4, .int 0, .int (-1), .int 0, .int 0, .int (-1), .int 0, .int 0, .int 0, .int 0, .int 0, .int 0, .int 0, .int 0, .int 0])), (h1, .inr (7, [.ref h5, .int 0, .int 0, .int 0, .int 0, .int 0, .int 0, .int 0, .int 0])), (h2, .inl (cA, 4096, .inl f1)), (h3, .inr (2, [.ref h6, .ref h7, .ref h8, .ref h9, .int 0])), (h4, .inr (2, [.ref h10, .ref h11, .ref h12, .ref h13, .int 0])), (h5, .inl (cA, 6000, .inl (fun _ => 0))), (h6, .inl (cA, 60, .inl (fun _ => 0))), (h7, .inl (cA, 60, .inl (fun _ => 0))), (h8, .inl (cA, 60, .inl (fun _ => 0))), (h9, .inl (cA, 60, .inl (fun _ => 0))), (h10, .inl (cA, 60, .inl (fun _ => 0))), (h11, .inl (cA, 60, .inl (fun _ => 0))), (h12, .inl (cA, 60, .inl (fun _ => 0))), (h13, .inl (cA, 60, .inl (fun _ => 0)))] rfl dX0_beginLine_7 (fun H locs hP hD hS => ?_)
  refine lv_aload_n hx hb dX0_beginLine_10 rfl (lv_at hl 0 rfl) ?_
  refine lv_iconst (v := (-1)) hx hb dX0_beginLine_11 (by decide) ?_
  refine k_put (C := RX0) (T := TX0) (N := 18) (ci := 0) (v := .int (-1)) (ty := .int) X hE hP hD hS 0 rfl rfl iX0 tyX0 tyX0_ok nmX0 11 (by decide) w_241 rfl (by decide +kernel) rfl rfl (Nat.le_of_ble_eq_true rfl) [(h0, .inr (0, [.ref h1, .ref h2, .ref h3, .ref h4, .int 0, .int (-1), .int 0, .int 0, .int (-1), .int 0, .int 0, .int (-1), .int 0, .int 0, .int 0, .int 0, .int 0, .int 0])), (h1, .inr (7, [.ref h5, .int 0, .int 0, .int 0, .int 0, .int 0, .int 0, .int 0, .int 0])), (h2, .inl (cA, 4096, .inl f1)), (h3, .inr (2, [.ref h6, .ref h7, .ref h8, .ref h9, .int 0])), (h4, .inr (2, [.ref h10, .ref h11, .ref h12, .ref h13, .int 0])), (h5, .inl (cA, 6000, .inl (fun _ => 0))), (h6, .inl (cA, 60, .inl (fun _ => 0))), (h7, .inl (cA, 60, .inl (fun _ => 0))), (h8, .inl (cA, 60, .inl (fun _ => 0))), (h9, .inl (cA, 60, .inl (fun _ => 0))), (h10, .inl (cA, 60, .inl (fun _ => 0))), (h11, .inl (cA, 60, .inl (fun _ => 0))), (h12, .inl (cA, 60, .inl (fun _ => 0))), (h13, .inl (cA, 60, .inl (fun _ => 0)))] rfl dX0_beginLine_12 (fun H locs hP hD hS => ?_)
  refine lv_aload_n hx hb dX0_beginLine_15 rfl (lv_at hl 0 rfl) ?_
  refine lv_iconst (v := 0) hx hb dX0_beginLine_16 (by decide) ?_
  refine k_put (C := RX0) (T := TX0) (N := 18) (ci := 0) (v := .int 0) (ty := .int) X hE hP hD hS 0 rfl rfl iX0 tyX0 tyX0_ok nmX0 13 (by decide) w_242 rfl (by decide +kernel) rfl rfl (Nat.le_of_ble_eq_true rfl) [(h0, .inr (0, [.ref h1, .ref h2, .ref h3, .ref h4, .int 0, .int (-1), .int 0, .int 0, .int (-1), .int 0, .int 0, .int (-1), .int 0, .int 0, .int 0, .int 0, .int 0, .int 0])), (h1, .inr (7, [.ref h5, .int 0, .int 0, .int 0, .int 0, .int 0, .int 0, .int 0, .int 0])), (h2, .inl (cA, 4096, .inl f1)), (h3, .inr (2, [.ref h6, .ref h7, .ref h8, .ref h9, .int 0])), (h4, .inr (2, [.ref h10, .ref h11, .ref h12, .ref h13, .int 0])), (h5, .inl (cA, 6000, .inl (fun _ => 0))), (h6, .inl (cA, 60, .inl (fun _ => 0))), (h7, .inl (cA, 60, .inl (fun _ => 0))), (h8, .inl (cA, 60, .inl (fun _ => 0))), (h9, .inl (cA, 60, .inl (fun _ => 0))), (h10, .inl (cA, 60, .inl (fun _ => 0))), (h11, .inl (cA, 60, .inl (fun _ => 0))), (h12, .inl (cA, 60, .inl (fun _ => 0))), (h13, .inl (cA, 60, .inl (fun _ => 0)))] rfl dX0_beginLine_17 (fun H locs hP hD hS => ?_)
  refine lv_aload_n hx hb dX0_beginLine_20 rfl (lv_at hl 0 rfl) ?_
  refine lv_iconst (v := (-1)) hx hb dX0_beginLine_21 (by decide) ?_
  refine k_put (C := RX0) (T := TX0) (N := 18) (ci := 0) (v := .int (-1)) (ty := .int) X hE hP hD hS 0 rfl rfl iX0 tyX0 tyX0_ok nmX0 16 (by decide) w_243 rfl (by decide +kernel) rfl rfl (Nat.le_of_ble_eq_true rfl) [(h0, .inr (0, [.ref h1, .ref h2, .ref h3, .ref h4, .int 0, .int (-1), .int 0, .int 0, .int (-1), .int 0, .int 0, .int (-1), .int 0, .int 0, .int 0, .int 0, .int (-1), .int 0])), (h1, .inr (7, [.ref h5, .int 0, .int 0, .int 0, .int 0, .int 0, .int 0, .int 0, .int 0])), (h2, .inl (cA, 4096, .inl f1)), (h3, .inr (2, [.ref h6, .ref h7, .ref h8, .ref h9, .int 0])), (h4, .inr (2, [.ref h10, .ref h11, .ref h12, .ref h13, .int 0])), (h5, .inl (cA, 6000, .inl (fun _ => 0))), (h6, .inl (cA, 60, .inl (fun _ => 0))), (h7, .inl (cA, 60, .inl (fun _ => 0))), (h8, .inl (cA, 60, .inl (fun _ => 0))), (h9, .inl (cA, 60, .inl (fun _ => 0))), (h10, .inl (cA, 60, .inl (fun _ => 0))), (h11, .inl (cA, 60, .inl (fun _ => 0))), (h12, .inl (cA, 60, .inl (fun _ => 0))), (h13, .inl (cA, 60, .inl (fun _ => 0)))] rfl dX0_beginLine_22 (fun H locs hP hD hS => ?_)
  refine lv_aload_n hx hb dX0_beginLine_25 rfl (lv_at hl 0 rfl) ?_
  refine lv_iconst (v := (-1)) hx hb dX0_beginLine_26 (by decide) ?_
  refine k_put (C := RX0) (T := TX0) (N := 18) (ci := 0) (v := .int (-1)) (ty := .int) X hE hP hD hS 0 rfl rfl iX0 tyX0 tyX0_ok nmX0 17 (by decide) w_244 rfl (by decide +kernel) rfl rfl (Nat.le_of_ble_eq_true rfl) [(h0, .inr (0, [.ref h1, .ref h2, .ref h3, .ref h4, .int 0, .int (-1), .int 0, .int 0, .int (-1), .int 0, .int 0, .int (-1), .int 0, .int 0, .int 0, .int 0, .int (-1), .int (-1)])), (h1, .inr (7, [.ref h5, .int 0, .int 0, .int 0, .int 0, .int 0, .int 0, .int 0, .int 0])), (h2, .inl (cA, 4096, .inl f1)), (h3, .inr (2, [.ref h6, .ref h7, .ref h8, .ref h9, .int 0])), (h4, .inr (2, [.ref h10, .ref h11, .ref h12, .ref h13, .int 0])), (h5, .inl (cA, 6000, .inl (fun _ => 0))), (h6, .inl (cA, 60, .inl (fun _ => 0))), (h7, .inl (cA, 60, .inl (fun _ => 0))), (h8, .inl (cA, 60, .inl (fun _ => 0))), (h9, .inl (cA, 60, .inl (fun _ => 0))), (h10, .inl (cA, 60, .inl (fun _ => 0))), (h11, .inl (cA, 60, .inl (fun _ => 0))), (h12, .inl (cA, 60, .inl (fun _ => 0))), (h13, .inl (cA, 60, .inl (fun _ => 0)))] rfl dX0_beginLine_27 (fun H locs hP hD hS => ?_)
  refine lv_aload_n hx hb dX0_beginLine_30 rfl (lv_at hl 0 rfl) ?_
  refine k_get (C := RX0) (T := TX0) (N := 18) (ci := 0) (v := .ref h1) X hE hP 0 rfl rfl iX0 0 (by decide) w_40 rfl dX0_beginLine_31 ?_
  refine lv_iload_n hx hb dX0_beginLine_34 rfl (lv_at hl 1 rfl) ?_
  refine kVv (n3 := 1) (As := [.int 0]) (rest := []) X hl.1 hE hP hD hS hA [(h1, .inr (7, [.ref h5, .int 0, .int 0, .int 0, .int 0, .int 0, .int 0, .int 0, .int 0])), (h5, .inl (cA, 6000, .inl (fun _ => 0)))] [(h0, .inr (0, [.ref h1, .ref h2, .ref h3, .ref h4, .int 0, .int (-1), .int 0, .int 0, .int (-1), .int 0, .int 0, .int (-1), .int 0, .int 0, .int 0, .int 0, .int (-1), .int (-1)])), (h2, .inl (cA, 4096, .inl f1)), (h3, .inr (2, [.ref h6, .ref h7, .ref h8, .ref h9, .int 0])), (h4, .inr (2, [.ref h10, .ref h11, .ref h12, .ref h13, .int 0])), (h6, .inl (cA, 60, .inl (fun _ => 0))), (h7, .inl (cA, 60, .inl (fun _ => 0))), (h8, .inl (cA, 60, .inl (fun _ => 0))), (h9, .inl (cA, 60, .inl (fun _ => 0))), (h10, .inl (cA, 60, .inl (fun _ => 0))), (h11, .inl (cA, 60, .inl (fun _ => 0))), (h12, .inl (cA, 60, .inl (fun _ => 0))), (h13, .inl (cA, 60, .inl (fun _ => 0)))] [1, 5] [0, 2, 3, 4, 6, 7, 8, 9, 10, 11, 12, 13] rfl rfl rfl (by decide) (by decide) (by decide) (c_X7_beginLine_a4 l D cA cB h1 h5 ) w_248 w_93 w_247 w_249 w_250 0 (ci := 7) (T := TX7) (N := 9) rfl rfl (by decide +kernel) rfl rfl (Nat.le_of_ble_eq_true rfl) ⟨(Nat.le_of_ble_eq_true rfl), (Nat.le_of_ble_eq_true rfl)⟩ ⟨(Nat.le_of_ble_eq_true rfl), (Nat.le_of_ble_eq_true rfl)⟩ dX0_beginLine_35 (fun W1 H locs hw hP hD hS => ?_)
  obtain rfl := hw
  have hP : va_P D classes [(h0, .inr (0, [.ref h1, .ref h2, .ref h3, .ref h4, .int 0, .int (-1), .int 0, .int 0, .int (-1), .int 0, .int 0, .int (-1), .int 0, .int 0, .int 0, .int 0, .int (-1), .int (-1)])), (h2, .inl (cA, 4096, .inl f1)), (h3, .inr (2, [.ref h6, .ref h7, .ref h8, .ref h9, .int 0])), (h4, .inr (2, [.ref h10, .ref h11, .ref h12, .ref h13, .int 0])), (h6, .inl (cA, 60, .inl (fun _ => 0))), (h7, .inl (cA, 60, .inl (fun _ => 0))), (h8, .inl (cA, 60, .inl (fun _ => 0))), (h9, .inl (cA, 60, .inl (fun _ => 0))), (h10, .inl (cA, 60, .inl (fun _ => 0))), (h11, .inl (cA, 60, .inl (fun _ => 0))), (h12, .inl (cA, 60, .inl (fun _ => 0))), (h13, .inl (cA, 60, .inl (fun _ => 0))), (h1, .inr (7, [.ref h5, .int 0, .int 0, .int 0, .int 0, .int 0, .int 0, .int 0, .int 0])), (h5, .inl (cA, 6000, .inl (fun _ => 0)))] H := hP
  have hD : va_D A [(h0, .inr (0, [.ref h1, .ref h2, .ref h3, .ref h4, .int 0, .int (-1), .int 0, .int 0, .int (-1), .int 0, .int 0, .int (-1), .int 0, .int 0, .int 0, .int 0, .int (-1), .int (-1)])), (h2, .inl (cA, 4096, .inl f1)), (h3, .inr (2, [.ref h6, .ref h7, .ref h8, .ref h9, .int 0])), (h4, .inr (2, [.ref h10, .ref h11, .ref h12, .ref h13, .int 0])), (h6, .inl (cA, 60, .inl (fun _ => 0))), (h7, .inl (cA, 60, .inl (fun _ => 0))), (h8, .inl (cA, 60, .inl (fun _ => 0))), (h9, .inl (cA, 60, .inl (fun _ => 0))), (h10, .inl (cA, 60, .inl (fun _ => 0))), (h11, .inl (cA, 60, .inl (fun _ => 0))), (h12, .inl (cA, 60, .inl (fun _ => 0))), (h13, .inl (cA, 60, .inl (fun _ => 0))), (h1, .inr (7, [.ref h5, .int 0, .int 0, .int 0, .int 0, .int 0, .int 0, .int 0, .int 0])), (h5, .inl (cA, 6000, .inl (fun _ => 0)))] := hD
  refine lv_aload_n hx hb dX0_beginLine_38 rfl (lv_at hl 0 rfl) ?_
  refine k_get (C := RX0) (T := TX0) (N := 18) (ci := 0) (v := .ref h1) X hE hP 0 rfl rfl iX0 0 (by decide) w_40 rfl dX0_beginLine_39 ?_
  refine kVv (n3 := 0) (As := []) (rest := []) X hl.1 hE hP hD hS hA [(h1, .inr (7, [.ref h5, .int 0, .int 0, .int 0, .int 0, .int 0, .int 0, .int 0, .int 0])), (h5, .inl (cA, 6000, .inl (fun _ => 0)))] [(h0, .inr (0, [.ref h1, .ref h2, .ref h3, .ref h4, .int 0, .int (-1), .int 0, .int 0, .int (-1), .int 0, .int 0, .int (-1), .int 0, .int 0, .int 0, .int 0, .int (-1), .int (-1)])), (h2, .inl (cA, 4096, .inl f1)), (h3, .inr (2, [.ref h6, .ref h7, .ref h8, .ref h9, .int 0])), (h4, .inr (2, [.ref h10, .ref h11, .ref h12, .ref h13, .int 0])), (h6, .inl (cA, 60, .inl (fun _ => 0))), (h7, .inl (cA, 60, .inl (fun _ => 0))), (h8, .inl (cA, 60, .inl (fun _ => 0))), (h9, .inl (cA, 60, .inl (fun _ => 0))), (h10, .inl (cA, 60, .inl (fun _ => 0))), (h11, .inl (cA, 60, .inl (fun _ => 0))), (h12, .inl (cA, 60, .inl (fun _ => 0))), (h13, .inl (cA, 60, .inl (fun _ => 0)))] [12, 13] [0, 1, 2, 3, 4, 5, 6, 7, 8, 9, 10, 11] rfl rfl rfl (by decide) (by decide) (by decide) (c_X7_next_a5 l D cA cB h1 h5 ) w_255 w_93 w_254 w_256 w_257 0 (ci := 7) (T := TX7) (N := 9) rfl rfl (by decide +kernel) rfl rfl (Nat.le_of_ble_eq_true rfl) ⟨(Nat.le_of_ble_eq_true rfl), (Nat.le_of_ble_eq_true rfl)⟩ ⟨(Nat.le_of_ble_eq_true rfl), (Nat.le_of_ble_eq_true rfl)⟩ dX0_beginLine_42 (fun W1 H locs hw hP hD hS => ?_)
  obtain rfl := hw
  have hP : va_P D classes [(h0, .inr (0, [.ref h1, .ref h2, .ref h3, .ref h4, .int 0, .int (-1), .int 0, .int 0, .int (-1), .int 0, .int 0, .int (-1), .int 0, .int 0, .int 0, .int 0, .int (-1), .int (-1)])), (h2, .inl (cA, 4096, .inl f1)), (h3, .inr (2, [.ref h6, .ref h7, .ref h8, .ref h9, .int 0])), (h4, .inr (2, [.ref h10, .ref h11, .ref h12, .ref h13, .int 0])), (h6, .inl (cA, 60, .inl (fun _ => 0))), (h7, .inl (cA, 60, .inl (fun _ => 0))), (h8, .inl (cA, 60, .inl (fun _ => 0))), (h9, .inl (cA, 60, .inl (fun _ => 0))), (h10, .inl (cA, 60, .inl (fun _ => 0))), (h11, .inl (cA, 60, .inl (fun _ => 0))), (h12, .inl (cA, 60, .inl (fun _ => 0))), (h13, .inl (cA, 60, .inl (fun _ => 0))), (h1, .inr (7, [.ref h5, .int 0, .int 0, .int 0, .int 256, .int 0, .int 0, .int 0, .int (-1)])), (h5, .inl (cA, 6000, .inl (fun _ => 0)))] H := hP
  have hD : va_D A [(h0, .inr (0, [.ref h1, .ref h2, .ref h3, .ref h4, .int 0, .int (-1), .int 0, .int 0, .int (-1), .int 0, .int 0, .int (-1), .int 0, .int 0, .int 0, .int 0, .int (-1), .int (-1)])), (h2, .inl (cA, 4096, .inl f1)), (h3, .inr (2, [.ref h6, .ref h7, .ref h8, .ref h9, .int 0])), (h4, .inr (2, [.ref h10, .ref h11, .ref h12, .ref h13, .int 0])), (h6, .inl (cA, 60, .inl (fun _ => 0))), (h7, .inl (cA, 60, .inl (fun _ => 0))), (h8, .inl (cA, 60, .inl (fun _ => 0))), (h9, .inl (cA, 60, .inl (fun _ => 0))), (h10, .inl (cA, 60, .inl (fun _ => 0))), (h11, .inl (cA, 60, .inl (fun _ => 0))), (h12, .inl (cA, 60, .inl (fun _ => 0))), (h13, .inl (cA, 60, .inl (fun _ => 0))), (h1, .inr (7, [.ref h5, .int 0, .int 0, .int 0, .int 256, .int 0, .int 0, .int 0, .int (-1)])), (h5, .inl (cA, 6000, .inl (fun _ => 0)))] := hD
  exact endV X hr hlocks hP hD hS dX0_beginLine_45 rfl
set_option maxHeartbeats 4000000 in
set_option maxRecDepth 100000 in
theorem c_X0_readName_a6 (l : Launch) (D : va_G) (cA cB : ClassId) (h0 : Nat) (h1 : Nat) (h2 : Nat) (h3 : Nat) (h4 : Nat) (h5 : Nat) (f1 : Nat → Int32) (h6 : Nat) (h7 : Nat) (h8 : Nat) (h9 : Nat) (h10 : Nat) (h11 : Nat) (h12 : Nat) (h13 : Nat) (z1 : ∀ j, j < 4096 → f1 j = 0) : CI l yX0_readName cX0_readName 1 (some .boolean) 0 0 0 0 D cA cB [.ref h0] [(h0, .inr (0, [.ref h1, .ref h2, .ref h3, .ref h4, .int 0, .int (-1), .int 0, .int 0, .int (-1), .int 0, .int 0, .int (-1), .int 0, .int 0, .int 0, .int 0, .int (-1), .int (-1)])), (h1, .inr (7, [.ref h5, .int 0, .int 0, .int 0, .int 256, .int 0, .int 0, .int 0, .int (-1)])), (h2, .inl (cA, 4096, .inl f1)), (h3, .inr (2, [.ref h6, .ref h7, .ref h8, .ref h9, .int 0])), (h4, .inr (2, [.ref h10, .ref h11, .ref h12, .ref h13, .int 0])), (h5, .inl (cA, 6000, .inl (fun _ => 0))), (h6, .inl (cA, 60, .inl (fun _ => 0))), (h7, .inl (cA, 60, .inl (fun _ => 0))), (h8, .inl (cA, 60, .inl (fun _ => 0))), (h9, .inl (cA, 60, .inl (fun _ => 0))), (h10, .inl (cA, 60, .inl (fun _ => 0))), (h11, .inl (cA, 60, .inl (fun _ => 0))), (h12, .inl (cA, 60, .inl (fun _ => 0))), (h13, .inl (cA, 60, .inl (fun _ => 0)))] (fun r W1 => r = 1 ∧ W1 = [(h0, .inr (0, [.ref h1, .ref h2, .ref h3, .ref h4, .int 0, .int (-1), .int 0, .int 0, .int (-1), .int 0, .int 0, .int (-1), .int 0, .int 0, .int 0, .int 0, .int (-1), .int (-1)])), (h1, .inr (7, [.ref h5, .int 0, .int 0, .int 0, .int 256, .int 0, .int 0, .int 0, .int (-1)])), (h2, .inl (cA, 4096, .inl f1)), (h3, .inr (2, [.ref h6, .ref h7, .ref h8, .ref h9, .int 0])), (h4, .inr (2, [.ref h10, .ref h11, .ref h12, .ref h13, .int 0])), (h5, .inl (cA, 6000, .inl (fun _ => 0))), (h6, .inl (cA, 60, .inl (fun _ => 0))), (h7, .inl (cA, 60, .inl (fun _ => 0))), (h8, .inl (cA, 60, .inl (fun _ => 0))), (h9, .inl (cA, 60, .inl (fun _ => 0))), (h10, .inl (cA, 60, .inl (fun _ => 0))), (h11, .inl (cA, 60, .inl (fun _ => 0))), (h12, .inl (cA, 60, .inl (fun _ => 0))), (h13, .inl (cA, 60, .inl (fun _ => 0)))]) := by
  refine mkI (lv0 := [(0, .ref h0)]) (by decide) (Nat.le_of_ble_eq_true rfl) rfl ?_
  intro p e s m below meth c A ls X hr hlocks hnm hE hA hP hD hS hl
  have hx := X.1
  have hb := X.2.1
  refine lv_aload_n hx hb dX0_readName_0 rfl (lv_at hl 0 rfl) ?_
  refine k_get (C := RX0) (T := TX0) (N := 18) (ci := 0) (v := .ref h1) X hE hP 0 rfl rfl iX0 0 (by decide) w_40 rfl dX0_readName_1 ?_
  refine k_getN (C := RX7) (T := TX7) (N := 9) (ci := 7) (v := .int 256) X hE hP 1 rfl rfl iX7 4 (by decide) nw_16 rfl dX0_readName_4 ?_
  refine lv_sipush (v := 257) hx hb dX0_readName_7 (by decide) ?_
  refine lv_icmp_eq (tgt := 15) hx hb dX0_readName_10 (by decide) (fun c_10 => absurd c_10 (by decide)) (fun c_10 => ?_)
  refine lv_iconst (v := 1) hx hb dX0_readName_13 (by decide) ?_
  exact endZ X hr rfl hlocks hP hD hS dX0_readName_14 ⟨rfl, rfl⟩
set_option maxHeartbeats 4000000 in
set_option maxRecDepth 100000 in
theorem c_X0_readWord_a7 (l : Launch) (D : va_G) (cA cB : ClassId) (h0 : Nat) (h1 : Nat) (h2 : Nat) (h3 : Nat) (h4 : Nat) (h5 : Nat) (f1 : Nat → Int32) (h6 : Nat) (h7 : Nat) (h8 : Nat) (h9 : Nat) (h10 : Nat) (h11 : Nat) (h12 : Nat) (h13 : Nat) (z1 : ∀ j, j < 4096 → f1 j = 0) : CI l yX0_readWord cX0_readWord 1 (some .boolean) 0 0 0 0 D cA cB [.ref h0] [(h0, .inr (0, [.ref h1, .ref h2, .ref h3, .ref h4, .int 0, .int (-1), .int 0, .int 0, .int (-1), .int 0, .int 0, .int (-1), .int 0, .int 0, .int 0, .int 0, .int (-1), .int (-1)])), (h1, .inr (7, [.ref h5, .int 0, .int 0, .int 0, .int 256, .int 0, .int 0, .int 0, .int (-1)])), (h2, .inl (cA, 4096, .inl f1)), (h3, .inr (2, [.ref h6, .ref h7, .ref h8, .ref h9, .int 0])), (h4, .inr (2, [.ref h10, .ref h11, .ref h12, .ref h13, .int 0])), (h5, .inl (cA, 6000, .inl (fun _ => 0))), (h6, .inl (cA, 60, .inl (fun _ => 0))), (h7, .inl (cA, 60, .inl (fun _ => 0))), (h8, .inl (cA, 60, .inl (fun _ => 0))), (h9, .inl (cA, 60, .inl (fun _ => 0))), (h10, .inl (cA, 60, .inl (fun _ => 0))), (h11, .inl (cA, 60, .inl (fun _ => 0))), (h12, .inl (cA, 60, .inl (fun _ => 0))), (h13, .inl (cA, 60, .inl (fun _ => 0)))] (fun r W1 => r = 1 ∧ W1 = [(h0, .inr (0, [.ref h1, .ref h2, .ref h3, .ref h4, .int 0, .int (-1), .int 0, .int 0, .int (-1), .int 0, .int 0, .int (-1), .int 0, .int 0, .int 0, .int 0, .int (-1), .int (-1)])), (h1, .inr (7, [.ref h5, .int 0, .int 0, .int 0, .int 256, .int 0, .int 0, .int 0, .int (-1)])), (h2, .inl (cA, 4096, .inl f1)), (h3, .inr (2, [.ref h6, .ref h7, .ref h8, .ref h9, .int 0])), (h4, .inr (2, [.ref h10, .ref h11, .ref h12, .ref h13, .int 0])), (h5, .inl (cA, 6000, .inl (fun _ => 0))), (h6, .inl (cA, 60, .inl (fun _ => 0))), (h7, .inl (cA, 60, .inl (fun _ => 0))), (h8, .inl (cA, 60, .inl (fun _ => 0))), (h9, .inl (cA, 60, .inl (fun _ => 0))), (h10, .inl (cA, 60, .inl (fun _ => 0))), (h11, .inl (cA, 60, .inl (fun _ => 0))), (h12, .inl (cA, 60, .inl (fun _ => 0))), (h13, .inl (cA, 60, .inl (fun _ => 0)))]) := by
  refine mkI (lv0 := [(0, .ref h0)]) (by decide) (Nat.le_of_ble_eq_true rfl) rfl ?_
  intro p e s m below meth c A ls X hr hlocks hnm hE hA hP hD hS hl
  have hx := X.1
  have hb := X.2.1
  refine lv_aload_n hx hb dX0_readWord_0 rfl (lv_at hl 0 rfl) ?_
  refine k_get (C := RX0) (T := TX0) (N := 18) (ci := 0) (v := .int 0) X hE hP 0 rfl rfl iX0 10 (by decide) w_240 rfl dX0_readWord_1 ?_
  refine lv_if_eq (tgt := 12) hx hb dX0_readWord_4 (by decide) (fun c_4 => ?_) (fun c_4 => absurd (by decide) c_4)
  refine lv_aload_n hx hb dX0_readWord_12 rfl (lv_at hl 0 rfl) ?_
  refine k_get (C := RX0) (T := TX0) (N := 18) (ci := 0) (v := .ref h1) X hE hP 0 rfl rfl iX0 0 (by decide) w_40 rfl dX0_readWord_13 ?_
  refine k_getN (C := RX7) (T := TX7) (N := 9) (ci := 7) (v := .int 256) X hE hP 1 rfl rfl iX7 4 (by decide) nw_16 rfl dX0_readWord_16 ?_
  refine lv_sipush (v := 258) hx hb dX0_readWord_19 (by decide) ?_
  refine lv_icmp_eq (tgt := 27) hx hb dX0_readWord_22 (by decide) (fun c_22 => absurd c_22 (by decide)) (fun c_22 => ?_)
  refine lv_iconst (v := 1) hx hb dX0_readWord_25 (by decide) ?_
  exact endZ X hr rfl hlocks hP hD hS dX0_readWord_26 ⟨rfl, rfl⟩
set_option maxHeartbeats 4000000 in
set_option maxRecDepth 100000 in
theorem c_X0_readRemark_a8 (l : Launch) (D : va_G) (cA cB : ClassId) (h0 : Nat) (h1 : Nat) (h2 : Nat) (h3 : Nat) (h4 : Nat) (h5 : Nat) (f1 : Nat → Int32) (h6 : Nat) (h7 : Nat) (h8 : Nat) (h9 : Nat) (h10 : Nat) (h11 : Nat) (h12 : Nat) (h13 : Nat) (z1 : ∀ j, j < 4096 → f1 j = 0) : CI l yX0_readRemark cX0_readRemark 1 (some .boolean) 0 0 0 0 D cA cB [.ref h0] [(h0, .inr (0, [.ref h1, .ref h2, .ref h3, .ref h4, .int 0, .int (-1), .int 0, .int 0, .int (-1), .int 0, .int 0, .int (-1), .int 0, .int 0, .int 0, .int 0, .int (-1), .int (-1)])), (h1, .inr (7, [.ref h5, .int 0, .int 0, .int 0, .int 256, .int 0, .int 0, .int 0, .int (-1)])), (h2, .inl (cA, 4096, .inl f1)), (h3, .inr (2, [.ref h6, .ref h7, .ref h8, .ref h9, .int 0])), (h4, .inr (2, [.ref h10, .ref h11, .ref h12, .ref h13, .int 0])), (h5, .inl (cA, 6000, .inl (fun _ => 0))), (h6, .inl (cA, 60, .inl (fun _ => 0))), (h7, .inl (cA, 60, .inl (fun _ => 0))), (h8, .inl (cA, 60, .inl (fun _ => 0))), (h9, .inl (cA, 60, .inl (fun _ => 0))), (h10, .inl (cA, 60, .inl (fun _ => 0))), (h11, .inl (cA, 60, .inl (fun _ => 0))), (h12, .inl (cA, 60, .inl (fun _ => 0))), (h13, .inl (cA, 60, .inl (fun _ => 0)))] (fun r W1 => r = 1 ∧ W1 = [(h0, .inr (0, [.ref h1, .ref h2, .ref h3, .ref h4, .int 0, .int (-1), .int 0, .int 0, .int (-1), .int 0, .int 0, .int (-1), .int 0, .int 0, .int 0, .int 0, .int (-1), .int (-1)])), (h1, .inr (7, [.ref h5, .int 0, .int 0, .int 0, .int 256, .int 0, .int 0, .int 0, .int (-1)])), (h2, .inl (cA, 4096, .inl f1)), (h3, .inr (2, [.ref h6, .ref h7, .ref h8, .ref h9, .int 0])), (h4, .inr (2, [.ref h10, .ref h11, .ref h12, .ref h13, .int 0])), (h5, .inl (cA, 6000, .inl (fun _ => 0))), (h6, .inl (cA, 60, .inl (fun _ => 0))), (h7, .inl (cA, 60, .inl (fun _ => 0))), (h8, .inl (cA, 60, .inl (fun _ => 0))), (h9, .inl (cA, 60, .inl (fun _ => 0))), (h10, .inl (cA, 60, .inl (fun _ => 0))), (h11, .inl (cA, 60, .inl (fun _ => 0))), (h12, .inl (cA, 60, .inl (fun _ => 0))), (h13, .inl (cA, 60, .inl (fun _ => 0)))]) := by
  refine mkI (lv0 := [(0, .ref h0)]) (by decide) (Nat.le_of_ble_eq_true rfl) rfl ?_
  intro p e s m below meth c A ls X hr hlocks hnm hE hA hP hD hS hl
  have hx := X.1
  have hb := X.2.1
  refine lv_aload_n hx hb dX0_readRemark_0 rfl (lv_at hl 0 rfl) ?_
  refine k_get (C := RX0) (T := TX0) (N := 18) (ci := 0) (v := .ref h1) X hE hP 0 rfl rfl iX0 0 (by decide) w_40 rfl dX0_readRemark_1 ?_
  refine k_getN (C := RX7) (T := TX7) (N := 9) (ci := 7) (v := .int 256) X hE hP 1 rfl rfl iX7 4 (by decide) nw_16 rfl dX0_readRemark_4 ?_
  refine lv_sipush (v := 256) hx hb dX0_readRemark_7 (by decide) ?_
  refine lv_icmp_eq (tgt := 32) hx hb dX0_readRemark_10 (by decide) (fun c_10 => ?_) (fun c_10 => absurd (by decide) c_10)
  refine lv_iconst (v := 1) hx hb dX0_readRemark_32 (by decide) ?_
  refine lv_goto (tgt := 37) hx hb dX0_readRemark_33 (by decide) ?_
  exact endZ X hr rfl hlocks hP hD hS dX0_readRemark_37 ⟨rfl, rfl⟩
set_option maxHeartbeats 4000000 in
set_option maxRecDepth 100000 in
theorem c_X0_leaveSpace_a10 (l : Launch) (D : va_G) (cA cB : ClassId) (h0 : Nat) (h1 : Nat) (h2 : Nat) (h3 : Nat) (h4 : Nat) (h5 : Nat) (f1 : Nat → Int32) (h6 : Nat) (h7 : Nat) (h8 : Nat) (h9 : Nat) (h10 : Nat) (h11 : Nat) (h12 : Nat) (h13 : Nat) (z1 : ∀ j, j < 4096 → f1 j = 0) : CV l yX0_leaveSpace cX0_leaveSpace 1 none 0 0 0 0 D cA cB [.ref h0] [(h0, .inr (0, [.ref h1, .ref h2, .ref h3, .ref h4, .int 0, .int (-1), .int 0, .int 0, .int (-1), .int 0, .int 0, .int (-1), .int 0, .int 0, .int 0, .int 0, .int (-1), .int (-1)])), (h1, .inr (7, [.ref h5, .int 0, .int 0, .int 0, .int 256, .int 0, .int 0, .int 0, .int (-1)])), (h2, .inl (cA, 4096, .inl f1)), (h3, .inr (2, [.ref h6, .ref h7, .ref h8, .ref h9, .int 0])), (h4, .inr (2, [.ref h10, .ref h11, .ref h12, .ref h13, .int 0])), (h5, .inl (cA, 6000, .inl (fun _ => 0))), (h6, .inl (cA, 60, .inl (fun _ => 0))), (h7, .inl (cA, 60, .inl (fun _ => 0))), (h8, .inl (cA, 60, .inl (fun _ => 0))), (h9, .inl (cA, 60, .inl (fun _ => 0))), (h10, .inl (cA, 60, .inl (fun _ => 0))), (h11, .inl (cA, 60, .inl (fun _ => 0))), (h12, .inl (cA, 60, .inl (fun _ => 0))), (h13, .inl (cA, 60, .inl (fun _ => 0)))] (fun W1 => W1 = [(h0, .inr (0, [.ref h1, .ref h2, .ref h3, .ref h4, .int 0, .int (-1), .int 0, .int 0, .int (-1), .int 0, .int 0, .int (-1), .int 0, .int 0, .int 0, .int 0, .int (-1), .int (-1)])), (h1, .inr (7, [.ref h5, .int 0, .int 0, .int 0, .int 256, .int 0, .int 0, .int 0, .int (-1)])), (h2, .inl (cA, 4096, .inl f1)), (h3, .inr (2, [.ref h6, .ref h7, .ref h8, .ref h9, .int 0])), (h4, .inr (2, [.ref h10, .ref h11, .ref h12, .ref h13, .int 0])), (h5, .inl (cA, 6000, .inl (fun _ => 0))), (h6, .inl (cA, 60, .inl (fun _ => 0))), (h7, .inl (cA, 60, .inl (fun _ => 0))), (h8, .inl (cA, 60, .inl (fun _ => 0))), (h9, .inl (cA, 60, .inl (fun _ => 0))), (h10, .inl (cA, 60, .inl (fun _ => 0))), (h11, .inl (cA, 60, .inl (fun _ => 0))), (h12, .inl (cA, 60, .inl (fun _ => 0))), (h13, .inl (cA, 60, .inl (fun _ => 0)))]) := by
  refine mkV (lv0 := [(0, .ref h0)]) (by decide) (Nat.le_of_ble_eq_true rfl) rfl ?_
  intro p e s m below meth c A ls X hr hlocks hnm hE hA hP hD hS hl
  have hx := X.1
  have hb := X.2.1
  refine lv_aload_n hx hb dX0_leaveSpace_0 rfl (lv_at hl 0 rfl) ?_
  refine k_get (C := RX0) (T := TX0) (N := 18) (ci := 0) (v := .int (-1)) X hE hP 0 rfl rfl iX0 11 (by decide) w_241 rfl dX0_leaveSpace_1 ?_
  refine lv_bipush (v := 81) hx hb dX0_leaveSpace_4 (by decide) ?_
  refine lv_icmp_ne (tgt := 17) hx hb dX0_leaveSpace_6 (by decide) (fun c_6 => ?_) (fun c_6 => absurd c_6 (by decide))
  exact endV X hr hlocks hP hD hS dX0_leaveSpace_17 rfl
set_option maxHeartbeats 4000000 in
set_option maxRecDepth 100000 in
theorem c_X0_checkFirst_a9 (l : Launch) (D : va_G) (cA cB : ClassId) (h0 : Nat) (h1 : Nat) (h2 : Nat) (h3 : Nat) (h4 : Nat) (h5 : Nat) (f1 : Nat → Int32) (h6 : Nat) (h7 : Nat) (h8 : Nat) (h9 : Nat) (h10 : Nat) (h11 : Nat) (h12 : Nat) (h13 : Nat) (z1 : ∀ j, j < 4096 → f1 j = 0) : CI l yX0_checkFirst cX0_checkFirst 3 (some .boolean) 1 20 0 0 D cA cB [.ref h0] [(h0, .inr (0, [.ref h1, .ref h2, .ref h3, .ref h4, .int 0, .int (-1), .int 0, .int 0, .int (-1), .int 0, .int 0, .int (-1), .int 0, .int 0, .int 0, .int 0, .int (-1), .int (-1)])), (h1, .inr (7, [.ref h5, .int 0, .int 0, .int 0, .int 256, .int 0, .int 0, .int 0, .int (-1)])), (h2, .inl (cA, 4096, .inl f1)), (h3, .inr (2, [.ref h6, .ref h7, .ref h8, .ref h9, .int 0])), (h4, .inr (2, [.ref h10, .ref h11, .ref h12, .ref h13, .int 0])), (h5, .inl (cA, 6000, .inl (fun _ => 0))), (h6, .inl (cA, 60, .inl (fun _ => 0))), (h7, .inl (cA, 60, .inl (fun _ => 0))), (h8, .inl (cA, 60, .inl (fun _ => 0))), (h9, .inl (cA, 60, .inl (fun _ => 0))), (h10, .inl (cA, 60, .inl (fun _ => 0))), (h11, .inl (cA, 60, .inl (fun _ => 0))), (h12, .inl (cA, 60, .inl (fun _ => 0))), (h13, .inl (cA, 60, .inl (fun _ => 0)))] (fun r W1 => r = 1 ∧ W1 = [(h0, .inr (0, [.ref h1, .ref h2, .ref h3, .ref h4, .int 0, .int (-1), .int 0, .int 0, .int (-1), .int 0, .int 0, .int (-1), .int 0, .int 0, .int 0, .int 0, .int (-1), .int (-1)])), (h1, .inr (7, [.ref h5, .int 0, .int 0, .int 0, .int 256, .int 0, .int 0, .int 0, .int (-1)])), (h2, .inl (cA, 4096, .inl f1)), (h3, .inr (2, [.ref h6, .ref h7, .ref h8, .ref h9, .int 0])), (h4, .inr (2, [.ref h10, .ref h11, .ref h12, .ref h13, .int 0])), (h5, .inl (cA, 6000, .inl (fun _ => 0))), (h6, .inl (cA, 60, .inl (fun _ => 0))), (h7, .inl (cA, 60, .inl (fun _ => 0))), (h8, .inl (cA, 60, .inl (fun _ => 0))), (h9, .inl (cA, 60, .inl (fun _ => 0))), (h10, .inl (cA, 60, .inl (fun _ => 0))), (h11, .inl (cA, 60, .inl (fun _ => 0))), (h12, .inl (cA, 60, .inl (fun _ => 0))), (h13, .inl (cA, 60, .inl (fun _ => 0)))]) := by
  refine mkI (lv0 := [(0, .ref h0)]) (by decide) (Nat.le_of_ble_eq_true rfl) rfl ?_
  intro p e s m below meth c A ls X hr hlocks hnm hE hA hP hD hS hl
  have hx := X.1
  have hb := X.2.1
  refine lv_aload_n hx hb dX0_checkFirst_0 rfl (lv_at hl 0 rfl) ?_
  refine k_get (C := RX0) (T := TX0) (N := 18) (ci := 0) (v := .int (-1)) X hE hP 0 rfl rfl iX0 8 (by decide) w_239 rfl dX0_checkFirst_1 ?_
  refine lv_iconst (v := (-1)) hx hb dX0_checkFirst_4 (by decide) ?_
  refine lv_icmp_eq (tgt := 12) hx hb dX0_checkFirst_5 (by decide) (fun c_5 => ?_) (fun c_5 => absurd (by decide) c_5)
  refine lv_iconst (v := 0) hx hb dX0_checkFirst_12 (by decide) ?_
  refine lv_istore_n (lv' := [(1, .int 0), (0, .ref h0)]) hx hb dX0_checkFirst_13 rfl hl (by decide) rfl (fun ls hl => ?_)
  refine lv_iload_n hx hb dX0_checkFirst_14 rfl (lv_at hl 0 rfl) ?_
  refine lv_if_eq (tgt := 51) hx hb dX0_checkFirst_15 (by decide) (fun c_15 => ?_) (fun c_15 => absurd (by decide) c_15)
  refine lv_iload_n hx hb dX0_checkFirst_51 rfl (lv_at hl 0 rfl) ?_
  refine lv_if_eq (tgt := 76) hx hb dX0_checkFirst_52 (by decide) (fun c_52 => ?_) (fun c_52 => absurd (by decide) c_52)
  refine lv_aload_n hx hb dX0_checkFirst_76 rfl (lv_at hl 1 rfl) ?_
  refine k_get (C := RX0) (T := TX0) (N := 18) (ci := 0) (v := .int 0) X hE hP 0 rfl rfl iX0 10 (by decide) w_240 rfl dX0_checkFirst_77 ?_
  refine lv_if_ne (tgt := 101) hx hb dX0_checkFirst_80 (by decide) (fun c_80 => absurd (by decide) c_80) (fun c_80 => ?_)
  refine lv_aload_n hx hb dX0_checkFirst_83 rfl (lv_at hl 1 rfl) ?_
  refine k_get (C := RX0) (T := TX0) (N := 18) (ci := 0) (v := .int (-1)) X hE hP 0 rfl rfl iX0 11 (by decide) w_241 rfl dX0_checkFirst_84 ?_
  refine lv_bipush (v := 80) hx hb dX0_checkFirst_87 (by decide) ?_
  refine lv_icmp_eq (tgt := 101) hx hb dX0_checkFirst_89 (by decide) (fun c_89 => absurd c_89 (by decide)) (fun c_89 => ?_)
  refine lv_aload_n hx hb dX0_checkFirst_92 rfl (lv_at hl 1 rfl) ?_
  refine k_get (C := RX0) (T := TX0) (N := 18) (ci := 0) (v := .int (-1)) X hE hP 0 rfl rfl iX0 11 (by decide) w_241 rfl dX0_checkFirst_93 ?_
  refine lv_bipush (v := 81) hx hb dX0_checkFirst_96 (by decide) ?_
  refine lv_icmp_ne (tgt := 105) hx hb dX0_checkFirst_98 (by decide) (fun c_98 => ?_) (fun c_98 => absurd c_98 (by decide))
  refine lv_iconst (v := 0) hx hb dX0_checkFirst_105 (by decide) ?_
  refine lv_istore_n (lv' := [(2, .int 0), (1, .int 0), (0, .ref h0)]) hx hb dX0_checkFirst_106 rfl hl (by decide) rfl (fun ls hl => ?_)
  refine lv_iload_n hx hb dX0_checkFirst_107 rfl (lv_at hl 0 rfl) ?_
  refine lv_if_eq (tgt := 129) hx hb dX0_checkFirst_108 (by decide) (fun c_108 => ?_) (fun c_108 => absurd (by decide) c_108)
  refine lv_aload_n hx hb dX0_checkFirst_129 rfl (lv_at hl 2 rfl) ?_
  refine k_get (C := RX0) (T := TX0) (N := 18) (ci := 0) (v := .int (-1)) X hE hP 0 rfl rfl iX0 11 (by decide) w_241 rfl dX0_checkFirst_130 ?_
  refine lv_bipush (v := 80) hx hb dX0_checkFirst_133 (by decide) ?_
  refine lv_icmp_ne (tgt := 155) hx hb dX0_checkFirst_135 (by decide) (fun c_135 => ?_) (fun c_135 => absurd c_135 (by decide))
  refine lv_aload_n hx hb dX0_checkFirst_155 rfl (lv_at hl 2 rfl) ?_
  refine k_get (C := RX0) (T := TX0) (N := 18) (ci := 0) (v := .int (-1)) X hE hP 0 rfl rfl iX0 11 (by decide) w_241 rfl dX0_checkFirst_156 ?_
  refine lv_bipush (v := 81) hx hb dX0_checkFirst_159 (by decide) ?_
  refine lv_icmp_ne (tgt := 191) hx hb dX0_checkFirst_161 (by decide) (fun c_161 => ?_) (fun c_161 => absurd c_161 (by decide))
  refine lv_aload_n hx hb dX0_checkFirst_191 rfl (lv_at hl 2 rfl) ?_
  refine kVv (n3 := 0) (As := []) (rest := []) X hl.1 hE hP hD hS hA [(h0, .inr (0, [.ref h1, .ref h2, .ref h3, .ref h4, .int 0, .int (-1), .int 0, .int 0, .int (-1), .int 0, .int 0, .int (-1), .int 0, .int 0, .int 0, .int 0, .int (-1), .int (-1)])), (h1, .inr (7, [.ref h5, .int 0, .int 0, .int 0, .int 256, .int 0, .int 0, .int 0, .int (-1)])), (h2, .inl (cA, 4096, .inl f1)), (h3, .inr (2, [.ref h6, .ref h7, .ref h8, .ref h9, .int 0])), (h4, .inr (2, [.ref h10, .ref h11, .ref h12, .ref h13, .int 0])), (h5, .inl (cA, 6000, .inl (fun _ => 0))), (h6, .inl (cA, 60, .inl (fun _ => 0))), (h7, .inl (cA, 60, .inl (fun _ => 0))), (h8, .inl (cA, 60, .inl (fun _ => 0))), (h9, .inl (cA, 60, .inl (fun _ => 0))), (h10, .inl (cA, 60, .inl (fun _ => 0))), (h11, .inl (cA, 60, .inl (fun _ => 0))), (h12, .inl (cA, 60, .inl (fun _ => 0))), (h13, .inl (cA, 60, .inl (fun _ => 0)))] [] [0, 1, 2, 3, 4, 5, 6, 7, 8, 9, 10, 11, 12, 13] [] rfl rfl rfl (by decide) (by decide) (by decide) (c_X0_leaveSpace_a10 l D cA cB h0 h1 h2 h3 h4 h5 f1 h6 h7 h8 h9 h10 h11 h12 h13 z1) w_275 w_99 w_274 w_276 w_277 0 (ci := 0) (T := TX0) (N := 18) rfl rfl (by decide +kernel) rfl rfl (Nat.le_of_ble_eq_true rfl) ⟨(Nat.le_of_ble_eq_true rfl), (Nat.le_of_ble_eq_true rfl)⟩ ⟨(Nat.le_of_ble_eq_true rfl), (Nat.le_of_ble_eq_true rfl)⟩ dX0_checkFirst_192 (fun W1 H locs hw hP hD hS => ?_)
  obtain rfl := hw
  have hP : va_P D classes [(h0, .inr (0, [.ref h1, .ref h2, .ref h3, .ref h4, .int 0, .int (-1), .int 0, .int 0, .int (-1), .int 0, .int 0, .int (-1), .int 0, .int 0, .int 0, .int 0, .int (-1), .int (-1)])), (h1, .inr (7, [.ref h5, .int 0, .int 0, .int 0, .int 256, .int 0, .int 0, .int 0, .int (-1)])), (h2, .inl (cA, 4096, .inl f1)), (h3, .inr (2, [.ref h6, .ref h7, .ref h8, .ref h9, .int 0])), (h4, .inr (2, [.ref h10, .ref h11, .ref h12, .ref h13, .int 0])), (h5, .inl (cA, 6000, .inl (fun _ => 0))), (h6, .inl (cA, 60, .inl (fun _ => 0))), (h7, .inl (cA, 60, .inl (fun _ => 0))), (h8, .inl (cA, 60, .inl (fun _ => 0))), (h9, .inl (cA, 60, .inl (fun _ => 0))), (h10, .inl (cA, 60, .inl (fun _ => 0))), (h11, .inl (cA, 60, .inl (fun _ => 0))), (h12, .inl (cA, 60, .inl (fun _ => 0))), (h13, .inl (cA, 60, .inl (fun _ => 0)))] H := hP
  have hD : va_D A [(h0, .inr (0, [.ref h1, .ref h2, .ref h3, .ref h4, .int 0, .int (-1), .int 0, .int 0, .int (-1), .int 0, .int 0, .int (-1), .int 0, .int 0, .int 0, .int 0, .int (-1), .int (-1)])), (h1, .inr (7, [.ref h5, .int 0, .int 0, .int 0, .int 256, .int 0, .int 0, .int 0, .int (-1)])), (h2, .inl (cA, 4096, .inl f1)), (h3, .inr (2, [.ref h6, .ref h7, .ref h8, .ref h9, .int 0])), (h4, .inr (2, [.ref h10, .ref h11, .ref h12, .ref h13, .int 0])), (h5, .inl (cA, 6000, .inl (fun _ => 0))), (h6, .inl (cA, 60, .inl (fun _ => 0))), (h7, .inl (cA, 60, .inl (fun _ => 0))), (h8, .inl (cA, 60, .inl (fun _ => 0))), (h9, .inl (cA, 60, .inl (fun _ => 0))), (h10, .inl (cA, 60, .inl (fun _ => 0))), (h11, .inl (cA, 60, .inl (fun _ => 0))), (h12, .inl (cA, 60, .inl (fun _ => 0))), (h13, .inl (cA, 60, .inl (fun _ => 0)))] := hD
  refine lv_aload_n hx hb dX0_checkFirst_195 rfl (lv_at hl 2 rfl) ?_
  refine k_get (C := RX0) (T := TX0) (N := 18) (ci := 0) (v := .int 0) X hE hP 0 rfl rfl iX0 6 (by decide) w_238 rfl dX0_checkFirst_196 ?_
  refine lv_aload_n hx hb dX0_checkFirst_199 rfl (lv_at hl 2 rfl) ?_
  refine k_get (C := RX0) (T := TX0) (N := 18) (ci := 0) (v := .int 0) X hE hP 0 rfl rfl iX0 13 (by decide) w_242 rfl dX0_checkFirst_200 ?_
  refine lv_iadd hx hb dX0_checkFirst_203 ?_
  refine tk (y := 0) (by decide) ?_
  refine lv_sipush (v := 4080) hx hb dX0_checkFirst_204 (by decide) ?_
  refine lv_icmp_le (tgt := 220) hx hb dX0_checkFirst_207 (by decide) (fun c_207 => ?_) (fun c_207 => absurd (by decide) c_207)
  refine lv_iload_n hx hb dX0_checkFirst_220 rfl (lv_at hl 1 rfl) ?_
  refine lv_if_eq (tgt := 270) hx hb dX0_checkFirst_221 (by decide) (fun c_221 => ?_) (fun c_221 => absurd (by decide) c_221)
  refine lv_iconst (v := 1) hx hb dX0_checkFirst_270 (by decide) ?_
  exact endZ X hr rfl hlocks hP hD hS dX0_checkFirst_271 ⟨rfl, rfl⟩
set_option maxHeartbeats 4000000 in
set_option maxRecDepth 100000 in
theorem c_X0_readLines_a2 (l : Launch) (D : va_G) (cA cB : ClassId) (h0 : Nat) (h1 : Nat) (h2 : Nat) (h3 : Nat) (h4 : Nat) (h5 : Nat) (f1 : Nat → Int32) (h6 : Nat) (h7 : Nat) (h8 : Nat) (h9 : Nat) (h10 : Nat) (h11 : Nat) (h12 : Nat) (h13 : Nat) (z1 : ∀ j, j < 4096 → f1 j = 0) : CI l yX0_readLines cX0_readLines 5 (some .boolean) 2 42 0 0 D cA cB [.ref h0, .int 0] [(h0, .inr (0, [.ref h1, .ref h2, .ref h3, .ref h4, .int 0, .int (-1), .int 0, .int 0, .int 0, .int 0, .int 0, .int 0, .int 0, .int 0, .int 0, .int 0, .int 0, .int 0])), (h1, .inr (7, [.ref h5, .int 0, .int 0, .int 0, .int 0, .int 0, .int 0, .int 0, .int 0])), (h2, .inl (cA, 4096, .inl f1)), (h3, .inr (2, [.ref h6, .ref h7, .ref h8, .ref h9, .int 0])), (h4, .inr (2, [.ref h10, .ref h11, .ref h12, .ref h13, .int 0])), (h5, .inl (cA, 6000, .inl (fun _ => 0))), (h6, .inl (cA, 60, .inl (fun _ => 0))), (h7, .inl (cA, 60, .inl (fun _ => 0))), (h8, .inl (cA, 60, .inl (fun _ => 0))), (h9, .inl (cA, 60, .inl (fun _ => 0))), (h10, .inl (cA, 60, .inl (fun _ => 0))), (h11, .inl (cA, 60, .inl (fun _ => 0))), (h12, .inl (cA, 60, .inl (fun _ => 0))), (h13, .inl (cA, 60, .inl (fun _ => 0)))] (fun r W1 => r = 1 ∧ W1 = [(h0, .inr (0, [.ref h1, .ref h2, .ref h3, .ref h4, .int 0, .int (-1), .int 0, .int 0, .int (-1), .int 0, .int 0, .int (-1), .int 0, .int 0, .int 0, .int 0, .int (-1), .int (-1)])), (h1, .inr (7, [.ref h5, .int 0, .int 0, .int 0, .int 256, .int 0, .int 0, .int 0, .int (-1)])), (h2, .inl (cA, 4096, .inl f1)), (h3, .inr (2, [.ref h6, .ref h7, .ref h8, .ref h9, .int 0])), (h4, .inr (2, [.ref h10, .ref h11, .ref h12, .ref h13, .int 0])), (h5, .inl (cA, 6000, .inl (fun _ => 0))), (h6, .inl (cA, 60, .inl (fun _ => 0))), (h7, .inl (cA, 60, .inl (fun _ => 0))), (h8, .inl (cA, 60, .inl (fun _ => 0))), (h9, .inl (cA, 60, .inl (fun _ => 0))), (h10, .inl (cA, 60, .inl (fun _ => 0))), (h11, .inl (cA, 60, .inl (fun _ => 0))), (h12, .inl (cA, 60, .inl (fun _ => 0))), (h13, .inl (cA, 60, .inl (fun _ => 0)))]) := by
  refine mkI (lv0 := [(0, .ref h0), (1, .int 0)]) (by decide) (Nat.le_of_ble_eq_true rfl) rfl ?_
  intro p e s m below meth c A ls X hr hlocks hnm hE hA hP hD hS hl
  have hx := X.1
  have hb := X.2.1
  refine lv_aload_n hx hb dX0_readLines_0 rfl (lv_at hl 0 rfl) ?_
  refine lv_iload_n hx hb dX0_readLines_1 rfl (lv_at hl 1 rfl) ?_
  refine k_put (C := RX0) (T := TX0) (N := 18) (ci := 0) (v := .int 0) (ty := .boolean) X hE hP hD hS 0 rfl rfl iX0 tyX0 tyX0_ok nmX0 7 (by decide) w_237 rfl (by decide +kernel) rfl rfl (Nat.le_of_ble_eq_true rfl) [(h0, .inr (0, [.ref h1, .ref h2, .ref h3, .ref h4, .int 0, .int (-1), .int 0, .int 0, .int 0, .int 0, .int 0, .int 0, .int 0, .int 0, .int 0, .int 0, .int 0, .int 0])), (h1, .inr (7, [.ref h5, .int 0, .int 0, .int 0, .int 0, .int 0, .int 0, .int 0, .int 0])), (h2, .inl (cA, 4096, .inl f1)), (h3, .inr (2, [.ref h6, .ref h7, .ref h8, .ref h9, .int 0])), (h4, .inr (2, [.ref h10, .ref h11, .ref h12, .ref h13, .int 0])), (h5, .inl (cA, 6000, .inl (fun _ => 0))), (h6, .inl (cA, 60, .inl (fun _ => 0))), (h7, .inl (cA, 60, .inl (fun _ => 0))), (h8, .inl (cA, 60, .inl (fun _ => 0))), (h9, .inl (cA, 60, .inl (fun _ => 0))), (h10, .inl (cA, 60, .inl (fun _ => 0))), (h11, .inl (cA, 60, .inl (fun _ => 0))), (h12, .inl (cA, 60, .inl (fun _ => 0))), (h13, .inl (cA, 60, .inl (fun _ => 0)))] rfl dX0_readLines_2 (fun H locs hP hD hS => ?_)
  refine lv_aload_n hx hb dX0_readLines_5 rfl (lv_at hl 0 rfl) ?_
  refine lv_iconst (v := 0) hx hb dX0_readLines_6 (by decide) ?_
  refine k_put (C := RX0) (T := TX0) (N := 18) (ci := 0) (v := .int 0) (ty := .int) X hE hP hD hS 0 rfl rfl iX0 tyX0 tyX0_ok nmX0 6 (by decide) w_238 rfl (by decide +kernel) rfl rfl (Nat.le_of_ble_eq_true rfl) [(h0, .inr (0, [.ref h1, .ref h2, .ref h3, .ref h4, .int 0, .int (-1), .int 0, .int 0, .int 0, .int 0, .int 0, .int 0, .int 0, .int 0, .int 0, .int 0, .int 0, .int 0])), (h1, .inr (7, [.ref h5, .int 0, .int 0, .int 0, .int 0, .int 0, .int 0, .int 0, .int 0])), (h2, .inl (cA, 4096, .inl f1)), (h3, .inr (2, [.ref h6, .ref h7, .ref h8, .ref h9, .int 0])), (h4, .inr (2, [.ref h10, .ref h11, .ref h12, .ref h13, .int 0])), (h5, .inl (cA, 6000, .inl (fun _ => 0))), (h6, .inl (cA, 60, .inl (fun _ => 0))), (h7, .inl (cA, 60, .inl (fun _ => 0))), (h8, .inl (cA, 60, .inl (fun _ => 0))), (h9, .inl (cA, 60, .inl (fun _ => 0))), (h10, .inl (cA, 60, .inl (fun _ => 0))), (h11, .inl (cA, 60, .inl (fun _ => 0))), (h12, .inl (cA, 60, .inl (fun _ => 0))), (h13, .inl (cA, 60, .inl (fun _ => 0)))] rfl dX0_readLines_7 (fun H locs hP hD hS => ?_)
  refine lv_iconst (v := 0) hx hb dX0_readLines_10 (by decide) ?_
  refine lv_istore_n (lv' := [(2, .int 0), (0, .ref h0), (1, .int 0)]) hx hb dX0_readLines_11 rfl hl (by decide) rfl (fun ls hl => ?_)
  refine lv_iconst (v := 0) hx hb dX0_readLines_12 (by decide) ?_
  refine lv_istore_n (lv' := [(3, .int 0), (2, .int 0), (0, .ref h0), (1, .int 0)]) hx hb dX0_readLines_13 rfl hl (by decide) rfl (fun ls hl => ?_)
  refine lv_iload_n hx hb dX0_readLines_14 rfl (lv_at hl 0 rfl) ?_
  refine lv_sipush (v := 6000) hx hb dX0_readLines_15 (by decide) ?_
  refine lv_icmp_gt (tgt := 138) hx hb dX0_readLines_18 (by decide) (fun c_18 => absurd c_18 (by decide)) (fun c_18 => ?_)
  refine lv_iload_n hx hb dX0_readLines_21 rfl (lv_at hl 1 rfl) ?_
  refine lv_aload_n hx hb dX0_readLines_22 rfl (lv_at hl 2 rfl) ?_
  refine k_get (C := RX0) (T := TX0) (N := 18) (ci := 0) (v := .ref h1) X hE hP 0 rfl rfl iX0 0 (by decide) w_40 rfl dX0_readLines_23 ?_
  refine k_getN (C := RX7) (T := TX7) (N := 9) (ci := 7) (v := .int 0) X hE hP 1 rfl rfl iX7 1 (by decide) nw_13 rfl dX0_readLines_26 ?_
  refine lv_icmp_gt (tgt := 138) hx hb dX0_readLines_29 (by decide) (fun c_29 => absurd c_29 (by decide)) (fun c_29 => ?_)
  refine lv_aload_n hx hb dX0_readLines_32 rfl (lv_at hl 2 rfl) ?_
  refine lv_iload_n hx hb dX0_readLines_33 rfl (lv_at hl 1 rfl) ?_
  refine kVv (n3 := 1) (As := [.int 0]) (rest := []) X hl.1 hE hP hD hS hA [(h0, .inr (0, [.ref h1, .ref h2, .ref h3, .ref h4, .int 0, .int (-1), .int 0, .int 0, .int 0, .int 0, .int 0, .int 0, .int 0, .int 0, .int 0, .int 0, .int 0, .int 0])), (h1, .inr (7, [.ref h5, .int 0, .int 0, .int 0, .int 0, .int 0, .int 0, .int 0, .int 0])), (h2, .inl (cA, 4096, .inl f1)), (h3, .inr (2, [.ref h6, .ref h7, .ref h8, .ref h9, .int 0])), (h4, .inr (2, [.ref h10, .ref h11, .ref h12, .ref h13, .int 0])), (h5, .inl (cA, 6000, .inl (fun _ => 0))), (h6, .inl (cA, 60, .inl (fun _ => 0))), (h7, .inl (cA, 60, .inl (fun _ => 0))), (h8, .inl (cA, 60, .inl (fun _ => 0))), (h9, .inl (cA, 60, .inl (fun _ => 0))), (h10, .inl (cA, 60, .inl (fun _ => 0))), (h11, .inl (cA, 60, .inl (fun _ => 0))), (h12, .inl (cA, 60, .inl (fun _ => 0))), (h13, .inl (cA, 60, .inl (fun _ => 0)))] [] [0, 1, 2, 3, 4, 5, 6, 7, 8, 9, 10, 11, 12, 13] [] rfl rfl rfl (by decide) (by decide) (by decide) (c_X0_beginLine_a3 l D cA cB h0 h1 h2 h3 h4 h5 f1 h6 h7 h8 h9 h10 h11 h12 h13 z1) w_259 w_99 w_258 w_260 w_261 0 (ci := 0) (T := TX0) (N := 18) rfl rfl (by decide +kernel) rfl rfl (Nat.le_of_ble_eq_true rfl) ⟨(Nat.le_of_ble_eq_true rfl), (Nat.le_of_ble_eq_true rfl)⟩ ⟨(Nat.le_of_ble_eq_true rfl), (Nat.le_of_ble_eq_true rfl)⟩ dX0_readLines_34 (fun W1 H locs hw hP hD hS => ?_)
  obtain rfl := hw
  have hP : va_P D classes [(h0, .inr (0, [.ref h1, .ref h2, .ref h3, .ref h4, .int 0, .int (-1), .int 0, .int 0, .int (-1), .int 0, .int 0, .int (-1), .int 0, .int 0, .int 0, .int 0, .int (-1), .int (-1)])), (h2, .inl (cA, 4096, .inl f1)), (h3, .inr (2, [.ref h6, .ref h7, .ref h8, .ref h9, .int 0])), (h4, .inr (2, [.ref h10, .ref h11, .ref h12, .ref h13, .int 0])), (h6, .inl (cA, 60, .inl (fun _ => 0))), (h7, .inl (cA, 60, .inl (fun _ => 0))), (h8, .inl (cA, 60, .inl (fun _ => 0))), (h9, .inl (cA, 60, .inl (fun _ => 0))), (h10, .inl (cA, 60, .inl (fun _ => 0))), (h11, .inl (cA, 60, .inl (fun _ => 0))), (h12, .inl (cA, 60, .inl (fun _ => 0))), (h13, .inl (cA, 60, .inl (fun _ => 0))), (h1, .inr (7, [.ref h5, .int 0, .int 0, .int 0, .int 256, .int 0, .int 0, .int 0, .int (-1)])), (h5, .inl (cA, 6000, .inl (fun _ => 0)))] H := hP
  have hD : va_D A [(h0, .inr (0, [.ref h1, .ref h2, .ref h3, .ref h4, .int 0, .int (-1), .int 0, .int 0, .int (-1), .int 0, .int 0, .int (-1), .int 0, .int 0, .int 0, .int 0, .int (-1), .int (-1)])), (h2, .inl (cA, 4096, .inl f1)), (h3, .inr (2, [.ref h6, .ref h7, .ref h8, .ref h9, .int 0])), (h4, .inr (2, [.ref h10, .ref h11, .ref h12, .ref h13, .int 0])), (h6, .inl (cA, 60, .inl (fun _ => 0))), (h7, .inl (cA, 60, .inl (fun _ => 0))), (h8, .inl (cA, 60, .inl (fun _ => 0))), (h9, .inl (cA, 60, .inl (fun _ => 0))), (h10, .inl (cA, 60, .inl (fun _ => 0))), (h11, .inl (cA, 60, .inl (fun _ => 0))), (h12, .inl (cA, 60, .inl (fun _ => 0))), (h13, .inl (cA, 60, .inl (fun _ => 0))), (h1, .inr (7, [.ref h5, .int 0, .int 0, .int 0, .int 256, .int 0, .int 0, .int 0, .int (-1)])), (h5, .inl (cA, 6000, .inl (fun _ => 0)))] := hD
  refine lv_aload_n hx hb dX0_readLines_37 rfl (lv_at hl 2 rfl) ?_
  refine kVi (n3 := 0) (As := []) (rest := []) X hl.1 hE hP hD hS hA [(h0, .inr (0, [.ref h1, .ref h2, .ref h3, .ref h4, .int 0, .int (-1), .int 0, .int 0, .int (-1), .int 0, .int 0, .int (-1), .int 0, .int 0, .int 0, .int 0, .int (-1), .int (-1)])), (h1, .inr (7, [.ref h5, .int 0, .int 0, .int 0, .int 256, .int 0, .int 0, .int 0, .int (-1)])), (h2, .inl (cA, 4096, .inl f1)), (h3, .inr (2, [.ref h6, .ref h7, .ref h8, .ref h9, .int 0])), (h4, .inr (2, [.ref h10, .ref h11, .ref h12, .ref h13, .int 0])), (h5, .inl (cA, 6000, .inl (fun _ => 0))), (h6, .inl (cA, 60, .inl (fun _ => 0))), (h7, .inl (cA, 60, .inl (fun _ => 0))), (h8, .inl (cA, 60, .inl (fun _ => 0))), (h9, .inl (cA, 60, .inl (fun _ => 0))), (h10, .inl (cA, 60, .inl (fun _ => 0))), (h11, .inl (cA, 60, .inl (fun _ => 0))), (h12, .inl (cA, 60, .inl (fun _ => 0))), (h13, .inl (cA, 60, .inl (fun _ => 0)))] [] [0, 12, 1, 2, 3, 13, 4, 5, 6, 7, 8, 9, 10, 11] [] rfl rfl rfl (by decide) (by decide) (by decide) (c_X0_readName_a6 l D cA cB h0 h1 h2 h3 h4 h5 f1 h6 h7 h8 h9 h10 h11 h12 h13 z1) w_263 w_99 w_262 w_264 w_265 0 (ci := 0) (T := TX0) (N := 18) rfl rfl (by decide +kernel) rfl rfl (Nat.le_of_ble_eq_true rfl) ⟨(Nat.le_of_ble_eq_true rfl), (Nat.le_of_ble_eq_true rfl)⟩ ⟨(Nat.le_of_ble_eq_true rfl), (Nat.le_of_ble_eq_true rfl)⟩ dX0_readLines_38 (fun r W1 H locs hw hP hD hS => ?_)
  obtain ⟨rfl, rfl⟩ := hw
  have hP : va_P D classes [(h0, .inr (0, [.ref h1, .ref h2, .ref h3, .ref h4, .int 0, .int (-1), .int 0, .int 0, .int (-1), .int 0, .int 0, .int (-1), .int 0, .int 0, .int 0, .int 0, .int (-1), .int (-1)])), (h1, .inr (7, [.ref h5, .int 0, .int 0, .int 0, .int 256, .int 0, .int 0, .int 0, .int (-1)])), (h2, .inl (cA, 4096, .inl f1)), (h3, .inr (2, [.ref h6, .ref h7, .ref h8, .ref h9, .int 0])), (h4, .inr (2, [.ref h10, .ref h11, .ref h12, .ref h13, .int 0])), (h5, .inl (cA, 6000, .inl (fun _ => 0))), (h6, .inl (cA, 60, .inl (fun _ => 0))), (h7, .inl (cA, 60, .inl (fun _ => 0))), (h8, .inl (cA, 60, .inl (fun _ => 0))), (h9, .inl (cA, 60, .inl (fun _ => 0))), (h10, .inl (cA, 60, .inl (fun _ => 0))), (h11, .inl (cA, 60, .inl (fun _ => 0))), (h12, .inl (cA, 60, .inl (fun _ => 0))), (h13, .inl (cA, 60, .inl (fun _ => 0)))] H := hP
  have hD : va_D A [(h0, .inr (0, [.ref h1, .ref h2, .ref h3, .ref h4, .int 0, .int (-1), .int 0, .int 0, .int (-1), .int 0, .int 0, .int (-1), .int 0, .int 0, .int 0, .int 0, .int (-1), .int (-1)])), (h1, .inr (7, [.ref h5, .int 0, .int 0, .int 0, .int 256, .int 0, .int 0, .int 0, .int (-1)])), (h2, .inl (cA, 4096, .inl f1)), (h3, .inr (2, [.ref h6, .ref h7, .ref h8, .ref h9, .int 0])), (h4, .inr (2, [.ref h10, .ref h11, .ref h12, .ref h13, .int 0])), (h5, .inl (cA, 6000, .inl (fun _ => 0))), (h6, .inl (cA, 60, .inl (fun _ => 0))), (h7, .inl (cA, 60, .inl (fun _ => 0))), (h8, .inl (cA, 60, .inl (fun _ => 0))), (h9, .inl (cA, 60, .inl (fun _ => 0))), (h10, .inl (cA, 60, .inl (fun _ => 0))), (h11, .inl (cA, 60, .inl (fun _ => 0))), (h12, .inl (cA, 60, .inl (fun _ => 0))), (h13, .inl (cA, 60, .inl (fun _ => 0)))] := hD
  refine lv_if_eq (tgt := 83) hx hb dX0_readLines_41 (by decide) (fun c_41 => absurd c_41 (by decide)) (fun c_41 => ?_)
  refine lv_aload_n hx hb dX0_readLines_44 rfl (lv_at hl 2 rfl) ?_
  refine kVi (n3 := 0) (As := []) (rest := []) X hl.1 hE hP hD hS hA [(h0, .inr (0, [.ref h1, .ref h2, .ref h3, .ref h4, .int 0, .int (-1), .int 0, .int 0, .int (-1), .int 0, .int 0, .int (-1), .int 0, .int 0, .int 0, .int 0, .int (-1), .int (-1)])), (h1, .inr (7, [.ref h5, .int 0, .int 0, .int 0, .int 256, .int 0, .int 0, .int 0, .int (-1)])), (h2, .inl (cA, 4096, .inl f1)), (h3, .inr (2, [.ref h6, .ref h7, .ref h8, .ref h9, .int 0])), (h4, .inr (2, [.ref h10, .ref h11, .ref h12, .ref h13, .int 0])), (h5, .inl (cA, 6000, .inl (fun _ => 0))), (h6, .inl (cA, 60, .inl (fun _ => 0))), (h7, .inl (cA, 60, .inl (fun _ => 0))), (h8, .inl (cA, 60, .inl (fun _ => 0))), (h9, .inl (cA, 60, .inl (fun _ => 0))), (h10, .inl (cA, 60, .inl (fun _ => 0))), (h11, .inl (cA, 60, .inl (fun _ => 0))), (h12, .inl (cA, 60, .inl (fun _ => 0))), (h13, .inl (cA, 60, .inl (fun _ => 0)))] [] [0, 1, 2, 3, 4, 5, 6, 7, 8, 9, 10, 11, 12, 13] [] rfl rfl rfl (by decide) (by decide) (by decide) (c_X0_readWord_a7 l D cA cB h0 h1 h2 h3 h4 h5 f1 h6 h7 h8 h9 h10 h11 h12 h13 z1) w_267 w_99 w_266 w_268 w_269 0 (ci := 0) (T := TX0) (N := 18) rfl rfl (by decide +kernel) rfl rfl (Nat.le_of_ble_eq_true rfl) ⟨(Nat.le_of_ble_eq_true rfl), (Nat.le_of_ble_eq_true rfl)⟩ ⟨(Nat.le_of_ble_eq_true rfl), (Nat.le_of_ble_eq_true rfl)⟩ dX0_readLines_45 (fun r W1 H locs hw hP hD hS => ?_)
  obtain ⟨rfl, rfl⟩ := hw
  have hP : va_P D classes [(h0, .inr (0, [.ref h1, .ref h2, .ref h3, .ref h4, .int 0, .int (-1), .int 0, .int 0, .int (-1), .int 0, .int 0, .int (-1), .int 0, .int 0, .int 0, .int 0, .int (-1), .int (-1)])), (h1, .inr (7, [.ref h5, .int 0, .int 0, .int 0, .int 256, .int 0, .int 0, .int 0, .int (-1)])), (h2, .inl (cA, 4096, .inl f1)), (h3, .inr (2, [.ref h6, .ref h7, .ref h8, .ref h9, .int 0])), (h4, .inr (2, [.ref h10, .ref h11, .ref h12, .ref h13, .int 0])), (h5, .inl (cA, 6000, .inl (fun _ => 0))), (h6, .inl (cA, 60, .inl (fun _ => 0))), (h7, .inl (cA, 60, .inl (fun _ => 0))), (h8, .inl (cA, 60, .inl (fun _ => 0))), (h9, .inl (cA, 60, .inl (fun _ => 0))), (h10, .inl (cA, 60, .inl (fun _ => 0))), (h11, .inl (cA, 60, .inl (fun _ => 0))), (h12, .inl (cA, 60, .inl (fun _ => 0))), (h13, .inl (cA, 60, .inl (fun _ => 0)))] H := hP
  have hD : va_D A [(h0, .inr (0, [.ref h1, .ref h2, .ref h3, .ref h4, .int 0, .int (-1), .int 0, .int 0, .int (-1), .int 0, .int 0, .int (-1), .int 0, .int 0, .int 0, .int 0, .int (-1), .int (-1)])), (h1, .inr (7, [.ref h5, .int 0, .int 0, .int 0, .int 256, .int 0, .int 0, .int 0, .int (-1)])), (h2, .inl (cA, 4096, .inl f1)), (h3, .inr (2, [.ref h6, .ref h7, .ref h8, .ref h9, .int 0])), (h4, .inr (2, [.ref h10, .ref h11, .ref h12, .ref h13, .int 0])), (h5, .inl (cA, 6000, .inl (fun _ => 0))), (h6, .inl (cA, 60, .inl (fun _ => 0))), (h7, .inl (cA, 60, .inl (fun _ => 0))), (h8, .inl (cA, 60, .inl (fun _ => 0))), (h9, .inl (cA, 60, .inl (fun _ => 0))), (h10, .inl (cA, 60, .inl (fun _ => 0))), (h11, .inl (cA, 60, .inl (fun _ => 0))), (h12, .inl (cA, 60, .inl (fun _ => 0))), (h13, .inl (cA, 60, .inl (fun _ => 0)))] := hD
  refine lv_if_eq (tgt := 83) hx hb dX0_readLines_48 (by decide) (fun c_48 => absurd c_48 (by decide)) (fun c_48 => ?_)
  refine lv_aload_n hx hb dX0_readLines_51 rfl (lv_at hl 2 rfl) ?_
  refine kVi (n3 := 0) (As := []) (rest := []) X hl.1 hE hP hD hS hA [(h0, .inr (0, [.ref h1, .ref h2, .ref h3, .ref h4, .int 0, .int (-1), .int 0, .int 0, .int (-1), .int 0, .int 0, .int (-1), .int 0, .int 0, .int 0, .int 0, .int (-1), .int (-1)])), (h1, .inr (7, [.ref h5, .int 0, .int 0, .int 0, .int 256, .int 0, .int 0, .int 0, .int (-1)])), (h2, .inl (cA, 4096, .inl f1)), (h3, .inr (2, [.ref h6, .ref h7, .ref h8, .ref h9, .int 0])), (h4, .inr (2, [.ref h10, .ref h11, .ref h12, .ref h13, .int 0])), (h5, .inl (cA, 6000, .inl (fun _ => 0))), (h6, .inl (cA, 60, .inl (fun _ => 0))), (h7, .inl (cA, 60, .inl (fun _ => 0))), (h8, .inl (cA, 60, .inl (fun _ => 0))), (h9, .inl (cA, 60, .inl (fun _ => 0))), (h10, .inl (cA, 60, .inl (fun _ => 0))), (h11, .inl (cA, 60, .inl (fun _ => 0))), (h12, .inl (cA, 60, .inl (fun _ => 0))), (h13, .inl (cA, 60, .inl (fun _ => 0)))] [] [0, 1, 2, 3, 4, 5, 6, 7, 8, 9, 10, 11, 12, 13] [] rfl rfl rfl (by decide) (by decide) (by decide) (c_X0_readRemark_a8 l D cA cB h0 h1 h2 h3 h4 h5 f1 h6 h7 h8 h9 h10 h11 h12 h13 z1) w_271 w_99 w_270 w_272 w_273 0 (ci := 0) (T := TX0) (N := 18) rfl rfl (by decide +kernel) rfl rfl (Nat.le_of_ble_eq_true rfl) ⟨(Nat.le_of_ble_eq_true rfl), (Nat.le_of_ble_eq_true rfl)⟩ ⟨(Nat.le_of_ble_eq_true rfl), (Nat.le_of_ble_eq_true rfl)⟩ dX0_readLines_52 (fun r W1 H locs hw hP hD hS => ?_)
  obtain ⟨rfl, rfl⟩ := hw
  have hP : va_P D classes [(h0, .inr (0, [.ref h1, .ref h2, .ref h3, .ref h4, .int 0, .int (-1), .int 0, .int 0, .int (-1), .int 0, .int 0, .int (-1), .int 0, .int 0, .int 0, .int 0, .int (-1), .int (-1)])), (h1, .inr (7, [.ref h5, .int 0, .int 0, .int 0, .int 256, .int 0, .int 0, .int 0, .int (-1)])), (h2, .inl (cA, 4096, .inl f1)), (h3, .inr (2, [.ref h6, .ref h7, .ref h8, .ref h9, .int 0])), (h4, .inr (2, [.ref h10, .ref h11, .ref h12, .ref h13, .int 0])), (h5, .inl (cA, 6000, .inl (fun _ => 0))), (h6, .inl (cA, 60, .inl (fun _ => 0))), (h7, .inl (cA, 60, .inl (fun _ => 0))), (h8, .inl (cA, 60, .inl (fun _ => 0))), (h9, .inl (cA, 60, .inl (fun _ => 0))), (h10, .inl (cA, 60, .inl (fun _ => 0))), (h11, .inl (cA, 60, .inl (fun _ => 0))), (h12, .inl (cA, 60, .inl (fun _ => 0))), (h13, .inl (cA, 60, .inl (fun _ => 0)))] H := hP
  have hD : va_D A [(h0, .inr (0, [.ref h1, .ref h2, .ref h3, .ref h4, .int 0, .int (-1), .int 0, .int 0, .int (-1), .int 0, .int 0, .int (-1), .int 0, .int 0, .int 0, .int 0, .int (-1), .int (-1)])), (h1, .inr (7, [.ref h5, .int 0, .int 0, .int 0, .int 256, .int 0, .int 0, .int 0, .int (-1)])), (h2, .inl (cA, 4096, .inl f1)), (h3, .inr (2, [.ref h6, .ref h7, .ref h8, .ref h9, .int 0])), (h4, .inr (2, [.ref h10, .ref h11, .ref h12, .ref h13, .int 0])), (h5, .inl (cA, 6000, .inl (fun _ => 0))), (h6, .inl (cA, 60, .inl (fun _ => 0))), (h7, .inl (cA, 60, .inl (fun _ => 0))), (h8, .inl (cA, 60, .inl (fun _ => 0))), (h9, .inl (cA, 60, .inl (fun _ => 0))), (h10, .inl (cA, 60, .inl (fun _ => 0))), (h11, .inl (cA, 60, .inl (fun _ => 0))), (h12, .inl (cA, 60, .inl (fun _ => 0))), (h13, .inl (cA, 60, .inl (fun _ => 0)))] := hD
  refine lv_if_eq (tgt := 83) hx hb dX0_readLines_55 (by decide) (fun c_55 => absurd c_55 (by decide)) (fun c_55 => ?_)
  refine lv_iload_n hx hb dX0_readLines_58 rfl (lv_at hl 3 rfl) ?_
  refine lv_if_eq (tgt := 72) hx hb dX0_readLines_59 (by decide) (fun c_59 => ?_) (fun c_59 => absurd (by decide) c_59)
  refine lv_aload_n hx hb dX0_readLines_72 rfl (lv_at hl 2 rfl) ?_
  refine kVi (n3 := 0) (As := []) (rest := []) X hl.1 hE hP hD hS hA [(h0, .inr (0, [.ref h1, .ref h2, .ref h3, .ref h4, .int 0, .int (-1), .int 0, .int 0, .int (-1), .int 0, .int 0, .int (-1), .int 0, .int 0, .int 0, .int 0, .int (-1), .int (-1)])), (h1, .inr (7, [.ref h5, .int 0, .int 0, .int 0, .int 256, .int 0, .int 0, .int 0, .int (-1)])), (h2, .inl (cA, 4096, .inl f1)), (h3, .inr (2, [.ref h6, .ref h7, .ref h8, .ref h9, .int 0])), (h4, .inr (2, [.ref h10, .ref h11, .ref h12, .ref h13, .int 0])), (h5, .inl (cA, 6000, .inl (fun _ => 0))), (h6, .inl (cA, 60, .inl (fun _ => 0))), (h7, .inl (cA, 60, .inl (fun _ => 0))), (h8, .inl (cA, 60, .inl (fun _ => 0))), (h9, .inl (cA, 60, .inl (fun _ => 0))), (h10, .inl (cA, 60, .inl (fun _ => 0))), (h11, .inl (cA, 60, .inl (fun _ => 0))), (h12, .inl (cA, 60, .inl (fun _ => 0))), (h13, .inl (cA, 60, .inl (fun _ => 0)))] [] [0, 1, 2, 3, 4, 5, 6, 7, 8, 9, 10, 11, 12, 13] [] rfl rfl rfl (by decide) (by decide) (by decide) (c_X0_checkFirst_a9 l D cA cB h0 h1 h2 h3 h4 h5 f1 h6 h7 h8 h9 h10 h11 h12 h13 z1) w_279 w_99 w_278 w_280 w_281 0 (ci := 0) (T := TX0) (N := 18) rfl rfl (by decide +kernel) rfl rfl (Nat.le_of_ble_eq_true rfl) ⟨(Nat.le_of_ble_eq_true rfl), (Nat.le_of_ble_eq_true rfl)⟩ ⟨(Nat.le_of_ble_eq_true rfl), (Nat.le_of_ble_eq_true rfl)⟩ dX0_readLines_73 (fun r W1 H locs hw hP hD hS => ?_)
  obtain ⟨rfl, rfl⟩ := hw
  have hP : va_P D classes [(h0, .inr (0, [.ref h1, .ref h2, .ref h3, .ref h4, .int 0, .int (-1), .int 0, .int 0, .int (-1), .int 0, .int 0, .int (-1), .int 0, .int 0, .int 0, .int 0, .int (-1), .int (-1)])), (h1, .inr (7, [.ref h5, .int 0, .int 0, .int 0, .int 256, .int 0, .int 0, .int 0, .int (-1)])), (h2, .inl (cA, 4096, .inl f1)), (h3, .inr (2, [.ref h6, .ref h7, .ref h8, .ref h9, .int 0])), (h4, .inr (2, [.ref h10, .ref h11, .ref h12, .ref h13, .int 0])), (h5, .inl (cA, 6000, .inl (fun _ => 0))), (h6, .inl (cA, 60, .inl (fun _ => 0))), (h7, .inl (cA, 60, .inl (fun _ => 0))), (h8, .inl (cA, 60, .inl (fun _ => 0))), (h9, .inl (cA, 60, .inl (fun _ => 0))), (h10, .inl (cA, 60, .inl (fun _ => 0))), (h11, .inl (cA, 60, .inl (fun _ => 0))), (h12, .inl (cA, 60, .inl (fun _ => 0))), (h13, .inl (cA, 60, .inl (fun _ => 0)))] H := hP
  have hD : va_D A [(h0, .inr (0, [.ref h1, .ref h2, .ref h3, .ref h4, .int 0, .int (-1), .int 0, .int 0, .int (-1), .int 0, .int 0, .int (-1), .int 0, .int 0, .int 0, .int 0, .int (-1), .int (-1)])), (h1, .inr (7, [.ref h5, .int 0, .int 0, .int 0, .int 256, .int 0, .int 0, .int 0, .int (-1)])), (h2, .inl (cA, 4096, .inl f1)), (h3, .inr (2, [.ref h6, .ref h7, .ref h8, .ref h9, .int 0])), (h4, .inr (2, [.ref h10, .ref h11, .ref h12, .ref h13, .int 0])), (h5, .inl (cA, 6000, .inl (fun _ => 0))), (h6, .inl (cA, 60, .inl (fun _ => 0))), (h7, .inl (cA, 60, .inl (fun _ => 0))), (h8, .inl (cA, 60, .inl (fun _ => 0))), (h9, .inl (cA, 60, .inl (fun _ => 0))), (h10, .inl (cA, 60, .inl (fun _ => 0))), (h11, .inl (cA, 60, .inl (fun _ => 0))), (h12, .inl (cA, 60, .inl (fun _ => 0))), (h13, .inl (cA, 60, .inl (fun _ => 0)))] := hD
  refine lv_if_eq (tgt := 83) hx hb dX0_readLines_76 (by decide) (fun c_76 => absurd c_76 (by decide)) (fun c_76 => ?_)
  refine lv_iconst (v := 1) hx hb dX0_readLines_79 (by decide) ?_
  refine lv_goto (tgt := 84) hx hb dX0_readLines_80 (by decide) ?_
  refine lv_istore (lv' := [(4, .int 1), (3, .int 0), (2, .int 0), (0, .ref h0), (1, .int 0)]) hx hb dX0_readLines_84 hl (by decide) rfl (fun ls hl => ?_)
  refine lv_iload hx hb dX0_readLines_86 (lv_at hl 0 rfl) ?_
  refine lv_if_ne (tgt := 93) hx hb dX0_readLines_88 (by decide) (fun c_88 => ?_) (fun c_88 => absurd c_88 (by decide))
  refine lv_aload_n hx hb dX0_readLines_93 rfl (lv_at hl 3 rfl) ?_
  refine lv_aload_n hx hb dX0_readLines_94 rfl (lv_at hl 3 rfl) ?_
  refine k_get (C := RX0) (T := TX0) (N := 18) (ci := 0) (v := .int (-1)) X hE hP 0 rfl rfl iX0 11 (by decide) w_241 rfl dX0_readLines_95 ?_
  refine lv_bipush (v := 80) hx hb dX0_readLines_98 (by decide) ?_
  refine lv_icmp_ne (tgt := 110) hx hb dX0_readLines_100 (by decide) (fun c_100 => ?_) (fun c_100 => absurd c_100 (by decide))
  refine lv_aload_n hx hb dX0_readLines_110 rfl (lv_at hl 3 rfl) ?_
  refine k_get (C := RX0) (T := TX0) (N := 18) (ci := 0) (v := .int 0) X hE hP 0 rfl rfl iX0 6 (by decide) w_238 rfl dX0_readLines_111 ?_
  refine lv_aload_n hx hb dX0_readLines_114 rfl (lv_at hl 3 rfl) ?_
  refine k_get (C := RX0) (T := TX0) (N := 18) (ci := 0) (v := .int 0) X hE hP 0 rfl rfl iX0 13 (by decide) w_242 rfl dX0_readLines_115 ?_
  refine lv_iadd hx hb dX0_readLines_118 ?_
  refine tk (y := 0) (by decide) ?_
  refine k_put (C := RX0) (T := TX0) (N := 18) (ci := 0) (v := .int 0) (ty := .int) X hE hP hD hS 0 rfl rfl iX0 tyX0 tyX0_ok nmX0 6 (by decide) w_238 rfl (by decide +kernel) rfl rfl (Nat.le_of_ble_eq_true rfl) [(h0, .inr (0, [.ref h1, .ref h2, .ref h3, .ref h4, .int 0, .int (-1), .int 0, .int 0, .int (-1), .int 0, .int 0, .int (-1), .int 0, .int 0, .int 0, .int 0, .int (-1), .int (-1)])), (h1, .inr (7, [.ref h5, .int 0, .int 0, .int 0, .int 256, .int 0, .int 0, .int 0, .int (-1)])), (h2, .inl (cA, 4096, .inl f1)), (h3, .inr (2, [.ref h6, .ref h7, .ref h8, .ref h9, .int 0])), (h4, .inr (2, [.ref h10, .ref h11, .ref h12, .ref h13, .int 0])), (h5, .inl (cA, 6000, .inl (fun _ => 0))), (h6, .inl (cA, 60, .inl (fun _ => 0))), (h7, .inl (cA, 60, .inl (fun _ => 0))), (h8, .inl (cA, 60, .inl (fun _ => 0))), (h9, .inl (cA, 60, .inl (fun _ => 0))), (h10, .inl (cA, 60, .inl (fun _ => 0))), (h11, .inl (cA, 60, .inl (fun _ => 0))), (h12, .inl (cA, 60, .inl (fun _ => 0))), (h13, .inl (cA, 60, .inl (fun _ => 0)))] rfl dX0_readLines_119 (fun H locs hP hD hS => ?_)
  refine lv_aload_n hx hb dX0_readLines_122 rfl (lv_at hl 3 rfl) ?_
  refine k_get (C := RX0) (T := TX0) (N := 18) (ci := 0) (v := .ref h1) X hE hP 0 rfl rfl iX0 0 (by decide) w_40 rfl dX0_readLines_123 ?_
  refine k_getN (C := RX7) (T := TX7) (N := 9) (ci := 7) (v := .int 0) X hE hP 1 rfl rfl iX7 2 (by decide) nw_14 rfl dX0_readLines_126 ?_
  refine lv_iconst (v := 1) hx hb dX0_readLines_129 (by decide) ?_
  refine lv_iadd hx hb dX0_readLines_130 ?_
  refine tk (y := 1) (by decide) ?_
  refine lv_istore_n (lv' := [(2, .int 1), (4, .int 1), (3, .int 0), (0, .ref h0), (1, .int 0)]) hx hb dX0_readLines_131 rfl hl (by decide) rfl (fun ls hl => ?_)
  refine lv_iinc (v := 1) (lv' := [(3, .int 1), (2, .int 1), (4, .int 1), (0, .ref h0), (1, .int 0)]) hx hb dX0_readLines_132 hl (k := 2) rfl (by decide) (by decide) rfl (fun ls hl => ?_)
  refine lv_goto (tgt := 14) hx hb dX0_readLines_135 (by decide) ?_
  refine lv_iload_n hx hb dX0_readLines_14 rfl (lv_at hl 0 rfl) ?_
  refine lv_sipush (v := 6000) hx hb dX0_readLines_15 (by decide) ?_
  refine lv_icmp_gt (tgt := 138) hx hb dX0_readLines_18 (by decide) (fun c_18_1 => absurd c_18_1 (by decide)) (fun c_18_1 => ?_)
  refine lv_iload_n hx hb dX0_readLines_21 rfl (lv_at hl 1 rfl) ?_
  refine lv_aload_n hx hb dX0_readLines_22 rfl (lv_at hl 3 rfl) ?_
  refine k_get (C := RX0) (T := TX0) (N := 18) (ci := 0) (v := .ref h1) X hE hP 0 rfl rfl iX0 0 (by decide) w_40 rfl dX0_readLines_23 ?_
  refine k_getN (C := RX7) (T := TX7) (N := 9) (ci := 7) (v := .int 0) X hE hP 1 rfl rfl iX7 1 (by decide) nw_13 rfl dX0_readLines_26 ?_
  refine lv_icmp_gt (tgt := 138) hx hb dX0_readLines_29 (by decide) (fun c_29_2 => ?_) (fun c_29_2 => absurd (by decide) c_29_2)
  refine lv_iconst (v := 1) hx hb dX0_readLines_138 (by decide) ?_
  exact endZ X hr rfl hlocks hP hD hS dX0_readLines_139 ⟨rfl, rfl⟩
set_option maxHeartbeats 4000000 in
set_option maxRecDepth 100000 in
theorem c_X7_beginLine_a13 (l : Launch) (D : va_G) (cA cB : ClassId) (h0 : Nat) (h1 : Nat)  : CV l yX7_beginLine cX7_beginLine 2 none 0 0 0 0 D cA cB [.ref h0, .int 0] [(h0, .inr (7, [.ref h1, .int 0, .int 0, .int 0, .int 256, .int 0, .int 0, .int 0, .int (-1)])), (h1, .inl (cA, 6000, .inl (fun _ => 0)))] (fun W1 => W1 = [(h0, .inr (7, [.ref h1, .int 0, .int 0, .int 0, .int 256, .int 0, .int 0, .int 0, .int (-1)])), (h1, .inl (cA, 6000, .inl (fun _ => 0)))]) := by
  refine mkV (lv0 := [(0, .ref h0), (1, .int 0)]) (by decide) (Nat.le_of_ble_eq_true rfl) rfl ?_
  intro p e s m below meth c A ls X hr hlocks hnm hE hA hP hD hS hl
  have hx := X.1
  have hb := X.2.1
  refine lv_aload_n hx hb dX7_beginLine_0 rfl (lv_at hl 0 rfl) ?_
  refine lv_iload_n hx hb dX7_beginLine_1 rfl (lv_at hl 1 rfl) ?_
  refine k_put (C := RX7) (T := TX7) (N := 9) (ci := 7) (v := .int 0) (ty := .int) X hE hP hD hS 0 rfl rfl iX7 tyX7 tyX7_ok nmX7 3 (by decide) w_245 rfl (by decide +kernel) rfl rfl (Nat.le_of_ble_eq_true rfl) [(h0, .inr (7, [.ref h1, .int 0, .int 0, .int 0, .int 256, .int 0, .int 0, .int 0, .int (-1)])), (h1, .inl (cA, 6000, .inl (fun _ => 0)))] rfl dX7_beginLine_2 (fun H locs hP hD hS => ?_)
  refine lv_aload_n hx hb dX7_beginLine_5 rfl (lv_at hl 0 rfl) ?_
  refine lv_iload_n hx hb dX7_beginLine_6 rfl (lv_at hl 1 rfl) ?_
  refine k_put (C := RX7) (T := TX7) (N := 9) (ci := 7) (v := .int 0) (ty := .int) X hE hP hD hS 0 rfl rfl iX7 tyX7 tyX7_ok nmX7 2 (by decide) w_246 rfl (by decide +kernel) rfl rfl (Nat.le_of_ble_eq_true rfl) [(h0, .inr (7, [.ref h1, .int 0, .int 0, .int 0, .int 256, .int 0, .int 0, .int 0, .int (-1)])), (h1, .inl (cA, 6000, .inl (fun _ => 0)))] rfl dX7_beginLine_7 (fun H locs hP hD hS => ?_)
  refine lv_aload_n hx hb dX7_beginLine_10 rfl (lv_at hl 0 rfl) ?_
  refine k_get (C := RX7) (T := TX7) (N := 9) (ci := 7) (v := .int 0) X hE hP 0 rfl rfl iX7 2 (by decide) w_246 rfl dX7_beginLine_11 ?_
  refine lv_aload_n hx hb dX7_beginLine_14 rfl (lv_at hl 0 rfl) ?_
  refine k_get (C := RX7) (T := TX7) (N := 9) (ci := 7) (v := .int 0) X hE hP 0 rfl rfl iX7 1 (by decide) w_144 rfl dX7_beginLine_15 ?_
  refine lv_icmp_ge (tgt := 48) hx hb dX7_beginLine_18 (by decide) (fun c_18 => ?_) (fun c_18 => absurd (by decide) c_18)
  exact endV X hr hlocks hP hD hS dX7_beginLine_48 rfl
set_option maxHeartbeats 4000000 in
set_option maxRecDepth 100000 in
theorem c_X7_next_a14 (l : Launch) (D : va_G) (cA cB : ClassId) (h0 : Nat) (h1 : Nat)  : CV l yX7_next cX7_next 2 none 0 0 0 0 D cA cB [.ref h0] [(h0, .inr (7, [.ref h1, .int 0, .int 0, .int 0, .int 256, .int 0, .int 0, .int 0, .int (-1)])), (h1, .inl (cA, 6000, .inl (fun _ => 0)))] (fun W1 => W1 = [(h0, .inr (7, [.ref h1, .int 0, .int 0, .int 0, .int 256, .int 0, .int 0, .int 0, .int (-1)])), (h1, .inl (cA, 6000, .inl (fun _ => 0)))]) := by
  refine mkV (lv0 := [(0, .ref h0)]) (by decide) (Nat.le_of_ble_eq_true rfl) rfl ?_
  intro p e s m below meth c A ls X hr hlocks hnm hE hA hP hD hS hl
  have hx := X.1
  have hb := X.2.1
  refine lv_aload_n hx hb dX7_next_0 rfl (lv_at hl 0 rfl) ?_
  refine k_get (C := RX7) (T := TX7) (N := 9) (ci := 7) (v := .int 0) X hE hP 0 rfl rfl iX7 3 (by decide) w_245 rfl dX7_next_1 ?_
  refine lv_aload_n hx hb dX7_next_4 rfl (lv_at hl 0 rfl) ?_
  refine k_get (C := RX7) (T := TX7) (N := 9) (ci := 7) (v := .int 0) X hE hP 0 rfl rfl iX7 2 (by decide) w_246 rfl dX7_next_5 ?_
  refine lv_icmp_ge (tgt := 38) hx hb dX7_next_8 (by decide) (fun c_8 => ?_) (fun c_8 => absurd (by decide) c_8)
  refine lv_aload_n hx hb dX7_next_38 rfl (lv_at hl 0 rfl) ?_
  refine lv_aload_n hx hb dX7_next_39 rfl (lv_at hl 0 rfl) ?_
  refine k_get (C := RX7) (T := TX7) (N := 9) (ci := 7) (v := .int 0) X hE hP 0 rfl rfl iX7 3 (by decide) w_245 rfl dX7_next_40 ?_
  refine k_put (C := RX7) (T := TX7) (N := 9) (ci := 7) (v := .int 0) (ty := .int) X hE hP hD hS 0 rfl rfl iX7 tyX7 tyX7_ok nmX7 5 (by decide) w_251 rfl (by decide +kernel) rfl rfl (Nat.le_of_ble_eq_true rfl) [(h0, .inr (7, [.ref h1, .int 0, .int 0, .int 0, .int 256, .int 0, .int 0, .int 0, .int (-1)])), (h1, .inl (cA, 6000, .inl (fun _ => 0)))] rfl dX7_next_43 (fun H locs hP hD hS => ?_)
  refine lv_aload_n hx hb dX7_next_46 rfl (lv_at hl 0 rfl) ?_
  refine lv_iconst (v := (-1)) hx hb dX7_next_47 (by decide) ?_
  refine k_put (C := RX7) (T := TX7) (N := 9) (ci := 7) (v := .int (-1)) (ty := .int) X hE hP hD hS 0 rfl rfl iX7 tyX7 tyX7_ok nmX7 8 (by decide) w_252 rfl (by decide +kernel) rfl rfl (Nat.le_of_ble_eq_true rfl) [(h0, .inr (7, [.ref h1, .int 0, .int 0, .int 0, .int 256, .int 0, .int 0, .int 0, .int (-1)])), (h1, .inl (cA, 6000, .inl (fun _ => 0)))] rfl dX7_next_48 (fun H locs hP hD hS => ?_)
  refine lv_aload_n hx hb dX7_next_51 rfl (lv_at hl 0 rfl) ?_
  refine k_get (C := RX7) (T := TX7) (N := 9) (ci := 7) (v := .int 0) X hE hP 0 rfl rfl iX7 3 (by decide) w_245 rfl dX7_next_52 ?_
  refine lv_aload_n hx hb dX7_next_55 rfl (lv_at hl 0 rfl) ?_
  refine k_get (C := RX7) (T := TX7) (N := 9) (ci := 7) (v := .int 0) X hE hP 0 rfl rfl iX7 2 (by decide) w_246 rfl dX7_next_56 ?_
  refine lv_icmp_lt (tgt := 70) hx hb dX7_next_59 (by decide) (fun c_59 => absurd c_59 (by decide)) (fun c_59 => ?_)
  refine lv_aload_n hx hb dX7_next_62 rfl (lv_at hl 0 rfl) ?_
  refine lv_sipush (v := 256) hx hb dX7_next_63 (by decide) ?_
  refine k_put (C := RX7) (T := TX7) (N := 9) (ci := 7) (v := .int 256) (ty := .int) X hE hP hD hS 0 rfl rfl iX7 tyX7 tyX7_ok nmX7 4 (by decide) w_253 rfl (by decide +kernel) rfl rfl (Nat.le_of_ble_eq_true rfl) [(h0, .inr (7, [.ref h1, .int 0, .int 0, .int 0, .int 256, .int 0, .int 0, .int 0, .int (-1)])), (h1, .inl (cA, 6000, .inl (fun _ => 0)))] rfl dX7_next_66 (fun H locs hP hD hS => ?_)
  exact endV X hr hlocks hP hD hS dX7_next_69 rfl
set_option maxHeartbeats 4000000 in
set_option maxRecDepth 100000 in
theorem c_X0_beginLine_a12 (l : Launch) (D : va_G) (cA cB : ClassId) (h0 : Nat) (h1 : Nat) (h2 : Nat) (h3 : Nat) (h4 : Nat) (h5 : Nat) (f1 : Nat → Int32) (h6 : Nat) (h7 : Nat) (h8 : Nat) (h9 : Nat) (h10 : Nat) (h11 : Nat) (h12 : Nat) (h13 : Nat) (z1 : ∀ j, j < 4096 → f1 j = 0) : CV l yX0_beginLine cX0_beginLine 2 none 1 21 0 0 D cA cB [.ref h0, .int 0] [(h0, .inr (0, [.ref h1, .ref h2, .ref h3, .ref h4, .int 0, .int (-1), .int 0, .int 1, .int (-1), .int 0, .int 0, .int (-1), .int 0, .int 0, .int 0, .int 0, .int (-1), .int (-1)])), (h1, .inr (7, [.ref h5, .int 0, .int 0, .int 0, .int 256, .int 0, .int 0, .int 0, .int (-1)])), (h2, .inl (cA, 4096, .inl f1)), (h3, .inr (2, [.ref h6, .ref h7, .ref h8, .ref h9, .int 0])), (h4, .inr (2, [.ref h10, .ref h11, .ref h12, .ref h13, .int 0])), (h5, .inl (cA, 6000, .inl (fun _ => 0))), (h6, .inl (cA, 60, .inl (fun _ => 0))), (h7, .inl (cA, 60, .inl (fun _ => 0))), (h8, .inl (cA, 60, .inl (fun _ => 0))), (h9, .inl (cA, 60, .inl (fun _ => 0))), (h10, .inl (cA, 60, .inl (fun _ => 0))), (h11, .inl (cA, 60, .inl (fun _ => 0))), (h12, .inl (cA, 60, .inl (fun _ => 0))), (h13, .inl (cA, 60, .inl (fun _ => 0)))] (fun W1 => W1 = [(h0, .inr (0, [.ref h1, .ref h2, .ref h3, .ref h4, .int 0, .int (-1), .int 0, .int 1, .int (-1), .int 0, .int 0, .int (-1), .int 0, .int 0, .int 0, .int 0, .int (-1), .int (-1)])), (h2, .inl (cA, 4096, .inl f1)), (h3, .inr (2, [.ref h6, .ref h7, .ref h8, .ref h9, .int 0])), (h4, .inr (2, [.ref h10, .ref h11, .ref h12, .ref h13, .int 0])), (h6, .inl (cA, 60, .inl (fun _ => 0))), (h7, .inl (cA, 60, .inl (fun _ => 0))), (h8, .inl (cA, 60, .inl (fun _ => 0))), (h9, .inl (cA, 60, .inl (fun _ => 0))), (h10, .inl (cA, 60, .inl (fun _ => 0))), (h11, .inl (cA, 60, .inl (fun _ => 0))), (h12, .inl (cA, 60, .inl (fun _ => 0))), (h13, .inl (cA, 60, .inl (fun _ => 0))), (h1, .inr (7, [.ref h5, .int 0, .int 0, .int 0, .int 256, .int 0, .int 0, .int 0, .int (-1)])), (h5, .inl (cA, 6000, .inl (fun _ => 0)))]) := by
  refine mkV (lv0 := [(0, .ref h0), (1, .int 0)]) (by decide) (Nat.le_of_ble_eq_true rfl) rfl ?_
  intro p e s m below meth c A ls X hr hlocks hnm hE hA hP hD hS hl
  have hx := X.1
  have hb := X.2.1
  refine lv_aload_n hx hb dX0_beginLine_0 rfl (lv_at hl 0 rfl) ?_
  refine lv_iconst (v := (-1)) hx hb dX0_beginLine_1 (by decide) ?_
  refine k_put (C := RX0) (T := TX0) (N := 18) (ci := 0) (v := .int (-1)) (ty := .int) X hE hP hD hS 0 rfl rfl iX0 tyX0 tyX0_ok nmX0 8 (by decide) w_239 rfl (by decide +kernel) rfl rfl (Nat.le_of_ble_eq_true rfl) [(h0, .inr (0, [.ref h1, .ref h2, .ref h3, .ref h4, .int 0, .int (-1), .int 0, .int 1, .int (-1), .int 0, .int 0, .int (-1), .int 0, .int 0, .int 0, .int 0, .int (-1), .int (-1)])), (h1, .inr (7, [.ref h5, .int 0, .int 0, .int 0, .int 256, .int 0, .int 0, .int 0, .int (-1)])), (h2, .inl (cA, 4096, .inl f1)), (h3, .inr (2, [.ref h6, .ref h7, .ref h8, .ref h9, .int 0])), (h4, .inr (2, [.ref h10, .ref h11, .ref h12, .ref h13, .int 0])), (h5, .inl (cA, 6000, .inl (fun _ => 0))), (h6, .inl (cA, 60, .inl (fun _ => 0))), (h7, .inl (cA, 60, .inl (fun _ => 0))), (h8, .inl (cA, 60, .inl (fun _ => 0))), (h9, .inl (cA, 60, .inl (fun _ => 0))), (h10, .inl (cA, 60, .inl (fun _ => 0))), (h11, .inl (cA, 60, .inl (fun _ => 0))), (h12, .inl (cA, 60, .inl (fun _ => 0))), (h13, .inl (cA, 60, .inl (fun _ => 0)))] rfl dX0_beginLine_2 (fun H locs hP hD hS => ?_)
  refine lv_aload_n hx hb dX0_beginLine_5 rfl (lv_at hl 0 rfl) ?_
  refine lv_iconst (v := 0) hx hb dX0_beginLine_6 (by decide) ?_
  refine k_put (C := RX0) (T := TX0) (N := 18) (ci := 0) (v := .int 0) (ty := .boolean) X hE hP hD hS 0 rfl rfl iX0 tyX0 tyX0_ok nmX0 10 (by decide) w_240 rfl (by decide +kernel) rfl rfl (Nat.le_of_ble_eq_true rfl) [(h0, .inr (0, [.ref h1, .ref h2, .ref h3, .ref h4, .int 0, .int (-1), .int 0, .int 1, .int (-1), .int 0, .int 0, .int (-1), .int 0, .int 0, .int 0, .int 0, .int (-1), .int (-1)])), (h1, .inr (7, [.ref h5, .int 0, .int 0, .int 0, .int 256, .int 0, .int 0, .int 0, .int (-1)])), (h2, .inl (cA, 4096, .inl f1)), (h3, .inr (2, [.ref h6, .ref h7, .ref h8, .ref h9, .int 0])), (h4, .inr (2, [.ref h10, .ref h11, .ref h12, .ref h13, .int 0])), (h5, .inl (cA, 6000, .inl (fun _ => 0))), (h6, .inl (cA, 60, .inl (fun _ => 0))), (h7, .inl (cA, 60, .inl (fun _ => 0))), (h8, .inl (cA, 60, .inl (fun _ => 0))), (h9, .inl (cA, 60, .inl (fun _ => 0))), (h10, .inl (cA, 60, .inl (fun _ => 0))), (h11, .inl (cA, 60, .inl (fun _ => 0))), (h12, .inl (cA, 60, .inl (fun _ => 0))), (h13, .inl (cA, 60, .inl (fun _ => 0)))] rfl dX0_beginLine_7 (fun H locs hP hD hS => ?_)
  refine lv_aload_n hx hb dX0_beginLine_10 rfl (lv_at hl 0 rfl) ?_
  refine lv_iconst (v := (-1)) hx hb dX0_beginLine_11 (by decide) ?_
  refine k_put (C := RX0) (T := TX0) (N := 18) (ci := 0) (v := .int (-1)) (ty := .int) X hE hP hD hS 0 rfl rfl iX0 tyX0 tyX0_ok nmX0 11 (by decide) w_241 rfl (by decide +kernel) rfl rfl (Nat.le_of_ble_eq_true rfl) [(h0, .inr (0, [.ref h1, .ref h2, .ref h3, .ref h4, .int 0, .int (-1), .int 0, .int 1, .int (-1), .int 0, .int 0, .int (-1), .int 0, .int 0, .int 0, .int 0, .int (-1), .int (-1)])), (h1, .inr (7, [.ref h5, .int 0, .int 0, .int 0, .int 256, .int 0, .int 0, .int 0, .int (-1)])), (h2, .inl (cA, 4096, .inl f1)), (h3, .inr (2, [.ref h6, .ref h7, .ref h8, .ref h9, .int 0])), (h4, .inr (2, [.ref h10, .ref h11, .ref h12, .ref h13, .int 0])), (h5, .inl (cA, 6000, .inl (fun _ => 0))), (h6, .inl (cA, 60, .inl (fun _ => 0))), (h7, .inl (cA, 60, .inl (fun _ => 0))), (h8, .inl (cA, 60, .inl (fun _ => 0))), (h9, .inl (cA, 60, .inl (fun _ => 0))), (h10, .inl (cA, 60, .inl (fun _ => 0))), (h11, .inl (cA, 60, .inl (fun _ => 0))), (h12, .inl (cA, 60, .inl (fun _ => 0))), (h13, .inl (cA, 60, .inl (fun _ => 0)))] rfl dX0_beginLine_12 (fun H locs hP hD hS => ?_)
  refine lv_aload_n hx hb dX0_beginLine_15 rfl (lv_at hl 0 rfl) ?_
  refine lv_iconst (v := 0) hx hb dX0_beginLine_16 (by decide) ?_
  refine k_put (C := RX0) (T := TX0) (N := 18) (ci := 0) (v := .int 0) (ty := .int) X hE hP hD hS 0 rfl rfl iX0 tyX0 tyX0_ok nmX0 13 (by decide) w_242 rfl (by decide +kernel) rfl rfl (Nat.le_of_ble_eq_true rfl) [(h0, .inr (0, [.ref h1, .ref h2, .ref h3, .ref h4, .int 0, .int (-1), .int 0, .int 1, .int (-1), .int 0, .int 0, .int (-1), .int 0, .int 0, .int 0, .int 0, .int (-1), .int (-1)])), (h1, .inr (7, [.ref h5, .int 0, .int 0, .int 0, .int 256, .int 0, .int 0, .int 0, .int (-1)])), (h2, .inl (cA, 4096, .inl f1)), (h3, .inr (2, [.ref h6, .ref h7, .ref h8, .ref h9, .int 0])), (h4, .inr (2, [.ref h10, .ref h11, .ref h12, .ref h13, .int 0])), (h5, .inl (cA, 6000, .inl (fun _ => 0))), (h6, .inl (cA, 60, .inl (fun _ => 0))), (h7, .inl (cA, 60, .inl (fun _ => 0))), (h8, .inl (cA, 60, .inl (fun _ => 0))), (h9, .inl (cA, 60, .inl (fun _ => 0))), (h10, .inl (cA, 60, .inl (fun _ => 0))), (h11, .inl (cA, 60, .inl (fun _ => 0))), (h12, .inl (cA, 60, .inl (fun _ => 0))), (h13, .inl (cA, 60, .inl (fun _ => 0)))] rfl dX0_beginLine_17 (fun H locs hP hD hS => ?_)
  refine lv_aload_n hx hb dX0_beginLine_20 rfl (lv_at hl 0 rfl) ?_
  refine lv_iconst (v := (-1)) hx hb dX0_beginLine_21 (by decide) ?_
  refine k_put (C := RX0) (T := TX0) (N := 18) (ci := 0) (v := .int (-1)) (ty := .int) X hE hP hD hS 0 rfl rfl iX0 tyX0 tyX0_ok nmX0 16 (by decide) w_243 rfl (by decide +kernel) rfl rfl (Nat.le_of_ble_eq_true rfl) [(h0, .inr (0, [.ref h1, .ref h2, .ref h3, .ref h4, .int 0, .int (-1), .int 0, .int 1, .int (-1), .int 0, .int 0, .int (-1), .int 0, .int 0, .int 0, .int 0, .int (-1), .int (-1)])), (h1, .inr (7, [.ref h5, .int 0, .int 0, .int 0, .int 256, .int 0, .int 0, .int 0, .int (-1)])), (h2, .inl (cA, 4096, .inl f1)), (h3, .inr (2, [.ref h6, .ref h7, .ref h8, .ref h9, .int 0])), (h4, .inr (2, [.ref h10, .ref h11, .ref h12, .ref h13, .int 0])), (h5, .inl (cA, 6000, .inl (fun _ => 0))), (h6, .inl (cA, 60, .inl (fun _ => 0))), (h7, .inl (cA, 60, .inl (fun _ => 0))), (h8, .inl (cA, 60, .inl (fun _ => 0))), (h9, .inl (cA, 60, .inl (fun _ => 0))), (h10, .inl (cA, 60, .inl (fun _ => 0))), (h11, .inl (cA, 60, .inl (fun _ => 0))), (h12, .inl (cA, 60, .inl (fun _ => 0))), (h13, .inl (cA, 60, .inl (fun _ => 0)))] rfl dX0_beginLine_22 (fun H locs hP hD hS => ?_)
  refine lv_aload_n hx hb dX0_beginLine_25 rfl (lv_at hl 0 rfl) ?_
  refine lv_iconst (v := (-1)) hx hb dX0_beginLine_26 (by decide) ?_
  refine k_put (C := RX0) (T := TX0) (N := 18) (ci := 0) (v := .int (-1)) (ty := .int) X hE hP hD hS 0 rfl rfl iX0 tyX0 tyX0_ok nmX0 17 (by decide) w_244 rfl (by decide +kernel) rfl rfl (Nat.le_of_ble_eq_true rfl) [(h0, .inr (0, [.ref h1, .ref h2, .ref h3, .ref h4, .int 0, .int (-1), .int 0, .int 1, .int (-1), .int 0, .int 0, .int (-1), .int 0, .int 0, .int 0, .int 0, .int (-1), .int (-1)])), (h1, .inr (7, [.ref h5, .int 0, .int 0, .int 0, .int 256, .int 0, .int 0, .int 0, .int (-1)])), (h2, .inl (cA, 4096, .inl f1)), (h3, .inr (2, [.ref h6, .ref h7, .ref h8, .ref h9, .int 0])), (h4, .inr (2, [.ref h10, .ref h11, .ref h12, .ref h13, .int 0])), (h5, .inl (cA, 6000, .inl (fun _ => 0))), (h6, .inl (cA, 60, .inl (fun _ => 0))), (h7, .inl (cA, 60, .inl (fun _ => 0))), (h8, .inl (cA, 60, .inl (fun _ => 0))), (h9, .inl (cA, 60, .inl (fun _ => 0))), (h10, .inl (cA, 60, .inl (fun _ => 0))), (h11, .inl (cA, 60, .inl (fun _ => 0))), (h12, .inl (cA, 60, .inl (fun _ => 0))), (h13, .inl (cA, 60, .inl (fun _ => 0)))] rfl dX0_beginLine_27 (fun H locs hP hD hS => ?_)
  refine lv_aload_n hx hb dX0_beginLine_30 rfl (lv_at hl 0 rfl) ?_
  refine k_get (C := RX0) (T := TX0) (N := 18) (ci := 0) (v := .ref h1) X hE hP 0 rfl rfl iX0 0 (by decide) w_40 rfl dX0_beginLine_31 ?_
  refine lv_iload_n hx hb dX0_beginLine_34 rfl (lv_at hl 1 rfl) ?_
  refine kVv (n3 := 1) (As := [.int 0]) (rest := []) X hl.1 hE hP hD hS hA [(h1, .inr (7, [.ref h5, .int 0, .int 0, .int 0, .int 256, .int 0, .int 0, .int 0, .int (-1)])), (h5, .inl (cA, 6000, .inl (fun _ => 0)))] [(h0, .inr (0, [.ref h1, .ref h2, .ref h3, .ref h4, .int 0, .int (-1), .int 0, .int 1, .int (-1), .int 0, .int 0, .int (-1), .int 0, .int 0, .int 0, .int 0, .int (-1), .int (-1)])), (h2, .inl (cA, 4096, .inl f1)), (h3, .inr (2, [.ref h6, .ref h7, .ref h8, .ref h9, .int 0])), (h4, .inr (2, [.ref h10, .ref h11, .ref h12, .ref h13, .int 0])), (h6, .inl (cA, 60, .inl (fun _ => 0))), (h7, .inl (cA, 60, .inl (fun _ => 0))), (h8, .inl (cA, 60, .inl (fun _ => 0))), (h9, .inl (cA, 60, .inl (fun _ => 0))), (h10, .inl (cA, 60, .inl (fun _ => 0))), (h11, .inl (cA, 60, .inl (fun _ => 0))), (h12, .inl (cA, 60, .inl (fun _ => 0))), (h13, .inl (cA, 60, .inl (fun _ => 0)))] [1, 5] [0, 2, 3, 4, 6, 7, 8, 9, 10, 11, 12, 13] rfl rfl rfl (by decide) (by decide) (by decide) (c_X7_beginLine_a13 l D cA cB h1 h5 ) w_248 w_93 w_247 w_249 w_250 0 (ci := 7) (T := TX7) (N := 9) rfl rfl (by decide +kernel) rfl rfl (Nat.le_of_ble_eq_true rfl) ⟨(Nat.le_of_ble_eq_true rfl), (Nat.le_of_ble_eq_true rfl)⟩ ⟨(Nat.le_of_ble_eq_true rfl), (Nat.le_of_ble_eq_true rfl)⟩ dX0_beginLine_35 (fun W1 H locs hw hP hD hS => ?_)
  obtain rfl := hw
  have hP : va_P D classes [(h0, .inr (0, [.ref h1, .ref h2, .ref h3, .ref h4, .int 0, .int (-1), .int 0, .int 1, .int (-1), .int 0, .int 0, .int (-1), .int 0, .int 0, .int 0, .int 0, .int (-1), .int (-1)])), (h2, .inl (cA, 4096, .inl f1)), (h3, .inr (2, [.ref h6, .ref h7, .ref h8, .ref h9, .int 0])), (h4, .inr (2, [.ref h10, .ref h11, .ref h12, .ref h13, .int 0])), (h6, .inl (cA, 60, .inl (fun _ => 0))), (h7, .inl (cA, 60, .inl (fun _ => 0))), (h8, .inl (cA, 60, .inl (fun _ => 0))), (h9, .inl (cA, 60, .inl (fun _ => 0))), (h10, .inl (cA, 60, .inl (fun _ => 0))), (h11, .inl (cA, 60, .inl (fun _ => 0))), (h12, .inl (cA, 60, .inl (fun _ => 0))), (h13, .inl (cA, 60, .inl (fun _ => 0))), (h1, .inr (7, [.ref h5, .int 0, .int 0, .int 0, .int 256, .int 0, .int 0, .int 0, .int (-1)])), (h5, .inl (cA, 6000, .inl (fun _ => 0)))] H := hP
  have hD : va_D A [(h0, .inr (0, [.ref h1, .ref h2, .ref h3, .ref h4, .int 0, .int (-1), .int 0, .int 1, .int (-1), .int 0, .int 0, .int (-1), .int 0, .int 0, .int 0, .int 0, .int (-1), .int (-1)])), (h2, .inl (cA, 4096, .inl f1)), (h3, .inr (2, [.ref h6, .ref h7, .ref h8, .ref h9, .int 0])), (h4, .inr (2, [.ref h10, .ref h11, .ref h12, .ref h13, .int 0])), (h6, .inl (cA, 60, .inl (fun _ => 0))), (h7, .inl (cA, 60, .inl (fun _ => 0))), (h8, .inl (cA, 60, .inl (fun _ => 0))), (h9, .inl (cA, 60, .inl (fun _ => 0))), (h10, .inl (cA, 60, .inl (fun _ => 0))), (h11, .inl (cA, 60, .inl (fun _ => 0))), (h12, .inl (cA, 60, .inl (fun _ => 0))), (h13, .inl (cA, 60, .inl (fun _ => 0))), (h1, .inr (7, [.ref h5, .int 0, .int 0, .int 0, .int 256, .int 0, .int 0, .int 0, .int (-1)])), (h5, .inl (cA, 6000, .inl (fun _ => 0)))] := hD
  refine lv_aload_n hx hb dX0_beginLine_38 rfl (lv_at hl 0 rfl) ?_
  refine k_get (C := RX0) (T := TX0) (N := 18) (ci := 0) (v := .ref h1) X hE hP 0 rfl rfl iX0 0 (by decide) w_40 rfl dX0_beginLine_39 ?_
  refine kVv (n3 := 0) (As := []) (rest := []) X hl.1 hE hP hD hS hA [(h1, .inr (7, [.ref h5, .int 0, .int 0, .int 0, .int 256, .int 0, .int 0, .int 0, .int (-1)])), (h5, .inl (cA, 6000, .inl (fun _ => 0)))] [(h0, .inr (0, [.ref h1, .ref h2, .ref h3, .ref h4, .int 0, .int (-1), .int 0, .int 1, .int (-1), .int 0, .int 0, .int (-1), .int 0, .int 0, .int 0, .int 0, .int (-1), .int (-1)])), (h2, .inl (cA, 4096, .inl f1)), (h3, .inr (2, [.ref h6, .ref h7, .ref h8, .ref h9, .int 0])), (h4, .inr (2, [.ref h10, .ref h11, .ref h12, .ref h13, .int 0])), (h6, .inl (cA, 60, .inl (fun _ => 0))), (h7, .inl (cA, 60, .inl (fun _ => 0))), (h8, .inl (cA, 60, .inl (fun _ => 0))), (h9, .inl (cA, 60, .inl (fun _ => 0))), (h10, .inl (cA, 60, .inl (fun _ => 0))), (h11, .inl (cA, 60, .inl (fun _ => 0))), (h12, .inl (cA, 60, .inl (fun _ => 0))), (h13, .inl (cA, 60, .inl (fun _ => 0)))] [12, 13] [0, 1, 2, 3, 4, 5, 6, 7, 8, 9, 10, 11] rfl rfl rfl (by decide) (by decide) (by decide) (c_X7_next_a14 l D cA cB h1 h5 ) w_255 w_93 w_254 w_256 w_257 0 (ci := 7) (T := TX7) (N := 9) rfl rfl (by decide +kernel) rfl rfl (Nat.le_of_ble_eq_true rfl) ⟨(Nat.le_of_ble_eq_true rfl), (Nat.le_of_ble_eq_true rfl)⟩ ⟨(Nat.le_of_ble_eq_true rfl), (Nat.le_of_ble_eq_true rfl)⟩ dX0_beginLine_42 (fun W1 H locs hw hP hD hS => ?_)
  obtain rfl := hw
  have hP : va_P D classes [(h0, .inr (0, [.ref h1, .ref h2, .ref h3, .ref h4, .int 0, .int (-1), .int 0, .int 1, .int (-1), .int 0, .int 0, .int (-1), .int 0, .int 0, .int 0, .int 0, .int (-1), .int (-1)])), (h2, .inl (cA, 4096, .inl f1)), (h3, .inr (2, [.ref h6, .ref h7, .ref h8, .ref h9, .int 0])), (h4, .inr (2, [.ref h10, .ref h11, .ref h12, .ref h13, .int 0])), (h6, .inl (cA, 60, .inl (fun _ => 0))), (h7, .inl (cA, 60, .inl (fun _ => 0))), (h8, .inl (cA, 60, .inl (fun _ => 0))), (h9, .inl (cA, 60, .inl (fun _ => 0))), (h10, .inl (cA, 60, .inl (fun _ => 0))), (h11, .inl (cA, 60, .inl (fun _ => 0))), (h12, .inl (cA, 60, .inl (fun _ => 0))), (h13, .inl (cA, 60, .inl (fun _ => 0))), (h1, .inr (7, [.ref h5, .int 0, .int 0, .int 0, .int 256, .int 0, .int 0, .int 0, .int (-1)])), (h5, .inl (cA, 6000, .inl (fun _ => 0)))] H := hP
  have hD : va_D A [(h0, .inr (0, [.ref h1, .ref h2, .ref h3, .ref h4, .int 0, .int (-1), .int 0, .int 1, .int (-1), .int 0, .int 0, .int (-1), .int 0, .int 0, .int 0, .int 0, .int (-1), .int (-1)])), (h2, .inl (cA, 4096, .inl f1)), (h3, .inr (2, [.ref h6, .ref h7, .ref h8, .ref h9, .int 0])), (h4, .inr (2, [.ref h10, .ref h11, .ref h12, .ref h13, .int 0])), (h6, .inl (cA, 60, .inl (fun _ => 0))), (h7, .inl (cA, 60, .inl (fun _ => 0))), (h8, .inl (cA, 60, .inl (fun _ => 0))), (h9, .inl (cA, 60, .inl (fun _ => 0))), (h10, .inl (cA, 60, .inl (fun _ => 0))), (h11, .inl (cA, 60, .inl (fun _ => 0))), (h12, .inl (cA, 60, .inl (fun _ => 0))), (h13, .inl (cA, 60, .inl (fun _ => 0))), (h1, .inr (7, [.ref h5, .int 0, .int 0, .int 0, .int 256, .int 0, .int 0, .int 0, .int (-1)])), (h5, .inl (cA, 6000, .inl (fun _ => 0)))] := hD
  exact endV X hr hlocks hP hD hS dX0_beginLine_45 rfl
set_option maxHeartbeats 4000000 in
set_option maxRecDepth 100000 in
theorem c_X0_readName_a15 (l : Launch) (D : va_G) (cA cB : ClassId) (h0 : Nat) (h1 : Nat) (h2 : Nat) (h3 : Nat) (h4 : Nat) (h5 : Nat) (f1 : Nat → Int32) (h6 : Nat) (h7 : Nat) (h8 : Nat) (h9 : Nat) (h10 : Nat) (h11 : Nat) (h12 : Nat) (h13 : Nat) (z1 : ∀ j, j < 4096 → f1 j = 0) : CI l yX0_readName cX0_readName 1 (some .boolean) 0 0 0 0 D cA cB [.ref h0] [(h0, .inr (0, [.ref h1, .ref h2, .ref h3, .ref h4, .int 0, .int (-1), .int 0, .int 1, .int (-1), .int 0, .int 0, .int (-1), .int 0, .int 0, .int 0, .int 0, .int (-1), .int (-1)])), (h1, .inr (7, [.ref h5, .int 0, .int 0, .int 0, .int 256, .int 0, .int 0, .int 0, .int (-1)])), (h2, .inl (cA, 4096, .inl f1)), (h3, .inr (2, [.ref h6, .ref h7, .ref h8, .ref h9, .int 0])), (h4, .inr (2, [.ref h10, .ref h11, .ref h12, .ref h13, .int 0])), (h5, .inl (cA, 6000, .inl (fun _ => 0))), (h6, .inl (cA, 60, .inl (fun _ => 0))), (h7, .inl (cA, 60, .inl (fun _ => 0))), (h8, .inl (cA, 60, .inl (fun _ => 0))), (h9, .inl (cA, 60, .inl (fun _ => 0))), (h10, .inl (cA, 60, .inl (fun _ => 0))), (h11, .inl (cA, 60, .inl (fun _ => 0))), (h12, .inl (cA, 60, .inl (fun _ => 0))), (h13, .inl (cA, 60, .inl (fun _ => 0)))] (fun r W1 => r = 1 ∧ W1 = [(h0, .inr (0, [.ref h1, .ref h2, .ref h3, .ref h4, .int 0, .int (-1), .int 0, .int 1, .int (-1), .int 0, .int 0, .int (-1), .int 0, .int 0, .int 0, .int 0, .int (-1), .int (-1)])), (h1, .inr (7, [.ref h5, .int 0, .int 0, .int 0, .int 256, .int 0, .int 0, .int 0, .int (-1)])), (h2, .inl (cA, 4096, .inl f1)), (h3, .inr (2, [.ref h6, .ref h7, .ref h8, .ref h9, .int 0])), (h4, .inr (2, [.ref h10, .ref h11, .ref h12, .ref h13, .int 0])), (h5, .inl (cA, 6000, .inl (fun _ => 0))), (h6, .inl (cA, 60, .inl (fun _ => 0))), (h7, .inl (cA, 60, .inl (fun _ => 0))), (h8, .inl (cA, 60, .inl (fun _ => 0))), (h9, .inl (cA, 60, .inl (fun _ => 0))), (h10, .inl (cA, 60, .inl (fun _ => 0))), (h11, .inl (cA, 60, .inl (fun _ => 0))), (h12, .inl (cA, 60, .inl (fun _ => 0))), (h13, .inl (cA, 60, .inl (fun _ => 0)))]) := by
  refine mkI (lv0 := [(0, .ref h0)]) (by decide) (Nat.le_of_ble_eq_true rfl) rfl ?_
  intro p e s m below meth c A ls X hr hlocks hnm hE hA hP hD hS hl
  have hx := X.1
  have hb := X.2.1
  refine lv_aload_n hx hb dX0_readName_0 rfl (lv_at hl 0 rfl) ?_
  refine k_get (C := RX0) (T := TX0) (N := 18) (ci := 0) (v := .ref h1) X hE hP 0 rfl rfl iX0 0 (by decide) w_40 rfl dX0_readName_1 ?_
  refine k_getN (C := RX7) (T := TX7) (N := 9) (ci := 7) (v := .int 256) X hE hP 1 rfl rfl iX7 4 (by decide) nw_16 rfl dX0_readName_4 ?_
  refine lv_sipush (v := 257) hx hb dX0_readName_7 (by decide) ?_
  refine lv_icmp_eq (tgt := 15) hx hb dX0_readName_10 (by decide) (fun c_10 => absurd c_10 (by decide)) (fun c_10 => ?_)
  refine lv_iconst (v := 1) hx hb dX0_readName_13 (by decide) ?_
  exact endZ X hr rfl hlocks hP hD hS dX0_readName_14 ⟨rfl, rfl⟩
set_option maxHeartbeats 4000000 in
set_option maxRecDepth 100000 in
theorem c_X0_readWord_a16 (l : Launch) (D : va_G) (cA cB : ClassId) (h0 : Nat) (h1 : Nat) (h2 : Nat) (h3 : Nat) (h4 : Nat) (h5 : Nat) (f1 : Nat → Int32) (h6 : Nat) (h7 : Nat) (h8 : Nat) (h9 : Nat) (h10 : Nat) (h11 : Nat) (h12 : Nat) (h13 : Nat) (z1 : ∀ j, j < 4096 → f1 j = 0) : CI l yX0_readWord cX0_readWord 1 (some .boolean) 0 0 0 0 D cA cB [.ref h0] [(h0, .inr (0, [.ref h1, .ref h2, .ref h3, .ref h4, .int 0, .int (-1), .int 0, .int 1, .int (-1), .int 0, .int 0, .int (-1), .int 0, .int 0, .int 0, .int 0, .int (-1), .int (-1)])), (h1, .inr (7, [.ref h5, .int 0, .int 0, .int 0, .int 256, .int 0, .int 0, .int 0, .int (-1)])), (h2, .inl (cA, 4096, .inl f1)), (h3, .inr (2, [.ref h6, .ref h7, .ref h8, .ref h9, .int 0])), (h4, .inr (2, [.ref h10, .ref h11, .ref h12, .ref h13, .int 0])), (h5, .inl (cA, 6000, .inl (fun _ => 0))), (h6, .inl (cA, 60, .inl (fun _ => 0))), (h7, .inl (cA, 60, .inl (fun _ => 0))), (h8, .inl (cA, 60, .inl (fun _ => 0))), (h9, .inl (cA, 60, .inl (fun _ => 0))), (h10, .inl (cA, 60, .inl (fun _ => 0))), (h11, .inl (cA, 60, .inl (fun _ => 0))), (h12, .inl (cA, 60, .inl (fun _ => 0))), (h13, .inl (cA, 60, .inl (fun _ => 0)))] (fun r W1 => r = 1 ∧ W1 = [(h0, .inr (0, [.ref h1, .ref h2, .ref h3, .ref h4, .int 0, .int (-1), .int 0, .int 1, .int (-1), .int 0, .int 0, .int (-1), .int 0, .int 0, .int 0, .int 0, .int (-1), .int (-1)])), (h1, .inr (7, [.ref h5, .int 0, .int 0, .int 0, .int 256, .int 0, .int 0, .int 0, .int (-1)])), (h2, .inl (cA, 4096, .inl f1)), (h3, .inr (2, [.ref h6, .ref h7, .ref h8, .ref h9, .int 0])), (h4, .inr (2, [.ref h10, .ref h11, .ref h12, .ref h13, .int 0])), (h5, .inl (cA, 6000, .inl (fun _ => 0))), (h6, .inl (cA, 60, .inl (fun _ => 0))), (h7, .inl (cA, 60, .inl (fun _ => 0))), (h8, .inl (cA, 60, .inl (fun _ => 0))), (h9, .inl (cA, 60, .inl (fun _ => 0))), (h10, .inl (cA, 60, .inl (fun _ => 0))), (h11, .inl (cA, 60, .inl (fun _ => 0))), (h12, .inl (cA, 60, .inl (fun _ => 0))), (h13, .inl (cA, 60, .inl (fun _ => 0)))]) := by
  refine mkI (lv0 := [(0, .ref h0)]) (by decide) (Nat.le_of_ble_eq_true rfl) rfl ?_
  intro p e s m below meth c A ls X hr hlocks hnm hE hA hP hD hS hl
  have hx := X.1
  have hb := X.2.1
  refine lv_aload_n hx hb dX0_readWord_0 rfl (lv_at hl 0 rfl) ?_
  refine k_get (C := RX0) (T := TX0) (N := 18) (ci := 0) (v := .int 0) X hE hP 0 rfl rfl iX0 10 (by decide) w_240 rfl dX0_readWord_1 ?_
  refine lv_if_eq (tgt := 12) hx hb dX0_readWord_4 (by decide) (fun c_4 => ?_) (fun c_4 => absurd (by decide) c_4)
  refine lv_aload_n hx hb dX0_readWord_12 rfl (lv_at hl 0 rfl) ?_
  refine k_get (C := RX0) (T := TX0) (N := 18) (ci := 0) (v := .ref h1) X hE hP 0 rfl rfl iX0 0 (by decide) w_40 rfl dX0_readWord_13 ?_
  refine k_getN (C := RX7) (T := TX7) (N := 9) (ci := 7) (v := .int 256) X hE hP 1 rfl rfl iX7 4 (by decide) nw_16 rfl dX0_readWord_16 ?_
  refine lv_sipush (v := 258) hx hb dX0_readWord_19 (by decide) ?_
  refine lv_icmp_eq (tgt := 27) hx hb dX0_readWord_22 (by decide) (fun c_22 => absurd c_22 (by decide)) (fun c_22 => ?_)
  refine lv_iconst (v := 1) hx hb dX0_readWord_25 (by decide) ?_
  exact endZ X hr rfl hlocks hP hD hS dX0_readWord_26 ⟨rfl, rfl⟩
set_option maxHeartbeats 4000000 in
set_option maxRecDepth 100000 in
theorem c_X0_readRemark_a17 (l : Launch) (D : va_G) (cA cB : ClassId) (h0 : Nat) (h1 : Nat) (h2 : Nat) (h3 : Nat) (h4 : Nat) (h5 : Nat) (f1 : Nat → Int32) (h6 : Nat) (h7 : Nat) (h8 : Nat) (h9 : Nat) (h10 : Nat) (h11 : Nat) (h12 : Nat) (h13 : Nat) (z1 : ∀ j, j < 4096 → f1 j = 0) : CI l yX0_readRemark cX0_readRemark 1 (some .boolean) 0 0 0 0 D cA cB [.ref h0] [(h0, .inr (0, [.ref h1, .ref h2, .ref h3, .ref h4, .int 0, .int (-1), .int 0, .int 1, .int (-1), .int 0, .int 0, .int (-1), .int 0, .int 0, .int 0, .int 0, .int (-1), .int (-1)])), (h1, .inr (7, [.ref h5, .int 0, .int 0, .int 0, .int 256, .int 0, .int 0, .int 0, .int (-1)])), (h2, .inl (cA, 4096, .inl f1)), (h3, .inr (2, [.ref h6, .ref h7, .ref h8, .ref h9, .int 0])), (h4, .inr (2, [.ref h10, .ref h11, .ref h12, .ref h13, .int 0])), (h5, .inl (cA, 6000, .inl (fun _ => 0))), (h6, .inl (cA, 60, .inl (fun _ => 0))), (h7, .inl (cA, 60, .inl (fun _ => 0))), (h8, .inl (cA, 60, .inl (fun _ => 0))), (h9, .inl (cA, 60, .inl (fun _ => 0))), (h10, .inl (cA, 60, .inl (fun _ => 0))), (h11, .inl (cA, 60, .inl (fun _ => 0))), (h12, .inl (cA, 60, .inl (fun _ => 0))), (h13, .inl (cA, 60, .inl (fun _ => 0)))] (fun r W1 => r = 1 ∧ W1 = [(h0, .inr (0, [.ref h1, .ref h2, .ref h3, .ref h4, .int 0, .int (-1), .int 0, .int 1, .int (-1), .int 0, .int 0, .int (-1), .int 0, .int 0, .int 0, .int 0, .int (-1), .int (-1)])), (h1, .inr (7, [.ref h5, .int 0, .int 0, .int 0, .int 256, .int 0, .int 0, .int 0, .int (-1)])), (h2, .inl (cA, 4096, .inl f1)), (h3, .inr (2, [.ref h6, .ref h7, .ref h8, .ref h9, .int 0])), (h4, .inr (2, [.ref h10, .ref h11, .ref h12, .ref h13, .int 0])), (h5, .inl (cA, 6000, .inl (fun _ => 0))), (h6, .inl (cA, 60, .inl (fun _ => 0))), (h7, .inl (cA, 60, .inl (fun _ => 0))), (h8, .inl (cA, 60, .inl (fun _ => 0))), (h9, .inl (cA, 60, .inl (fun _ => 0))), (h10, .inl (cA, 60, .inl (fun _ => 0))), (h11, .inl (cA, 60, .inl (fun _ => 0))), (h12, .inl (cA, 60, .inl (fun _ => 0))), (h13, .inl (cA, 60, .inl (fun _ => 0)))]) := by
  refine mkI (lv0 := [(0, .ref h0)]) (by decide) (Nat.le_of_ble_eq_true rfl) rfl ?_
  intro p e s m below meth c A ls X hr hlocks hnm hE hA hP hD hS hl
  have hx := X.1
  have hb := X.2.1
  refine lv_aload_n hx hb dX0_readRemark_0 rfl (lv_at hl 0 rfl) ?_
  refine k_get (C := RX0) (T := TX0) (N := 18) (ci := 0) (v := .ref h1) X hE hP 0 rfl rfl iX0 0 (by decide) w_40 rfl dX0_readRemark_1 ?_
  refine k_getN (C := RX7) (T := TX7) (N := 9) (ci := 7) (v := .int 256) X hE hP 1 rfl rfl iX7 4 (by decide) nw_16 rfl dX0_readRemark_4 ?_
  refine lv_sipush (v := 256) hx hb dX0_readRemark_7 (by decide) ?_
  refine lv_icmp_eq (tgt := 32) hx hb dX0_readRemark_10 (by decide) (fun c_10 => ?_) (fun c_10 => absurd (by decide) c_10)
  refine lv_iconst (v := 1) hx hb dX0_readRemark_32 (by decide) ?_
  refine lv_goto (tgt := 37) hx hb dX0_readRemark_33 (by decide) ?_
  exact endZ X hr rfl hlocks hP hD hS dX0_readRemark_37 ⟨rfl, rfl⟩
set_option maxHeartbeats 4000000 in
set_option maxRecDepth 100000 in
theorem c_X0_leaveSpace_a19 (l : Launch) (D : va_G) (cA cB : ClassId) (h0 : Nat) (h1 : Nat) (h2 : Nat) (h3 : Nat) (h4 : Nat) (h5 : Nat) (f1 : Nat → Int32) (h6 : Nat) (h7 : Nat) (h8 : Nat) (h9 : Nat) (h10 : Nat) (h11 : Nat) (h12 : Nat) (h13 : Nat) (z1 : ∀ j, j < 4096 → f1 j = 0) : CV l yX0_leaveSpace cX0_leaveSpace 1 none 0 0 0 0 D cA cB [.ref h0] [(h0, .inr (0, [.ref h1, .ref h2, .ref h3, .ref h4, .int 0, .int (-1), .int 0, .int 1, .int (-1), .int 0, .int 0, .int (-1), .int 0, .int 0, .int 0, .int 0, .int (-1), .int (-1)])), (h1, .inr (7, [.ref h5, .int 0, .int 0, .int 0, .int 256, .int 0, .int 0, .int 0, .int (-1)])), (h2, .inl (cA, 4096, .inl f1)), (h3, .inr (2, [.ref h6, .ref h7, .ref h8, .ref h9, .int 0])), (h4, .inr (2, [.ref h10, .ref h11, .ref h12, .ref h13, .int 0])), (h5, .inl (cA, 6000, .inl (fun _ => 0))), (h6, .inl (cA, 60, .inl (fun _ => 0))), (h7, .inl (cA, 60, .inl (fun _ => 0))), (h8, .inl (cA, 60, .inl (fun _ => 0))), (h9, .inl (cA, 60, .inl (fun _ => 0))), (h10, .inl (cA, 60, .inl (fun _ => 0))), (h11, .inl (cA, 60, .inl (fun _ => 0))), (h12, .inl (cA, 60, .inl (fun _ => 0))), (h13, .inl (cA, 60, .inl (fun _ => 0)))] (fun W1 => W1 = [(h0, .inr (0, [.ref h1, .ref h2, .ref h3, .ref h4, .int 0, .int (-1), .int 0, .int 1, .int (-1), .int 0, .int 0, .int (-1), .int 0, .int 0, .int 0, .int 0, .int (-1), .int (-1)])), (h1, .inr (7, [.ref h5, .int 0, .int 0, .int 0, .int 256, .int 0, .int 0, .int 0, .int (-1)])), (h2, .inl (cA, 4096, .inl f1)), (h3, .inr (2, [.ref h6, .ref h7, .ref h8, .ref h9, .int 0])), (h4, .inr (2, [.ref h10, .ref h11, .ref h12, .ref h13, .int 0])), (h5, .inl (cA, 6000, .inl (fun _ => 0))), (h6, .inl (cA, 60, .inl (fun _ => 0))), (h7, .inl (cA, 60, .inl (fun _ => 0))), (h8, .inl (cA, 60, .inl (fun _ => 0))), (h9, .inl (cA, 60, .inl (fun _ => 0))), (h10, .inl (cA, 60, .inl (fun _ => 0))), (h11, .inl (cA, 60, .inl (fun _ => 0))), (h12, .inl (cA, 60, .inl (fun _ => 0))), (h13, .inl (cA, 60, .inl (fun _ => 0)))]) := by
  refine mkV (lv0 := [(0, .ref h0)]) (by decide) (Nat.le_of_ble_eq_true rfl) rfl ?_
  intro p e s m below meth c A ls X hr hlocks hnm hE hA hP hD hS hl
  have hx := X.1
  have hb := X.2.1
  refine lv_aload_n hx hb dX0_leaveSpace_0 rfl (lv_at hl 0 rfl) ?_
  refine k_get (C := RX0) (T := TX0) (N := 18) (ci := 0) (v := .int (-1)) X hE hP 0 rfl rfl iX0 11 (by decide) w_241 rfl dX0_leaveSpace_1 ?_
  refine lv_bipush (v := 81) hx hb dX0_leaveSpace_4 (by decide) ?_
  refine lv_icmp_ne (tgt := 17) hx hb dX0_leaveSpace_6 (by decide) (fun c_6 => ?_) (fun c_6 => absurd c_6 (by decide))
  exact endV X hr hlocks hP hD hS dX0_leaveSpace_17 rfl
set_option maxHeartbeats 4000000 in
set_option maxRecDepth 100000 in
theorem c_X0_checkSecond_a18 (l : Launch) (D : va_G) (cA cB : ClassId) (h0 : Nat) (h1 : Nat) (h2 : Nat) (h3 : Nat) (h4 : Nat) (h5 : Nat) (f1 : Nat → Int32) (h6 : Nat) (h7 : Nat) (h8 : Nat) (h9 : Nat) (h10 : Nat) (h11 : Nat) (h12 : Nat) (h13 : Nat) (z1 : ∀ j, j < 4096 → f1 j = 0) : CI l yX0_checkSecond cX0_checkSecond 1 (some .boolean) 1 20 0 0 D cA cB [.ref h0] [(h0, .inr (0, [.ref h1, .ref h2, .ref h3, .ref h4, .int 0, .int (-1), .int 0, .int 1, .int (-1), .int 0, .int 0, .int (-1), .int 0, .int 0, .int 0, .int 0, .int (-1), .int (-1)])), (h1, .inr (7, [.ref h5, .int 0, .int 0, .int 0, .int 256, .int 0, .int 0, .int 0, .int (-1)])), (h2, .inl (cA, 4096, .inl f1)), (h3, .inr (2, [.ref h6, .ref h7, .ref h8, .ref h9, .int 0])), (h4, .inr (2, [.ref h10, .ref h11, .ref h12, .ref h13, .int 0])), (h5, .inl (cA, 6000, .inl (fun _ => 0))), (h6, .inl (cA, 60, .inl (fun _ => 0))), (h7, .inl (cA, 60, .inl (fun _ => 0))), (h8, .inl (cA, 60, .inl (fun _ => 0))), (h9, .inl (cA, 60, .inl (fun _ => 0))), (h10, .inl (cA, 60, .inl (fun _ => 0))), (h11, .inl (cA, 60, .inl (fun _ => 0))), (h12, .inl (cA, 60, .inl (fun _ => 0))), (h13, .inl (cA, 60, .inl (fun _ => 0)))] (fun r W1 => r = 1 ∧ W1 = [(h0, .inr (0, [.ref h1, .ref h2, .ref h3, .ref h4, .int 0, .int (-1), .int 0, .int 1, .int (-1), .int 0, .int 0, .int (-1), .int 0, .int 0, .int 0, .int 0, .int (-1), .int (-1)])), (h1, .inr (7, [.ref h5, .int 0, .int 0, .int 0, .int 256, .int 0, .int 0, .int 0, .int (-1)])), (h2, .inl (cA, 4096, .inl f1)), (h3, .inr (2, [.ref h6, .ref h7, .ref h8, .ref h9, .int 0])), (h4, .inr (2, [.ref h10, .ref h11, .ref h12, .ref h13, .int 0])), (h5, .inl (cA, 6000, .inl (fun _ => 0))), (h6, .inl (cA, 60, .inl (fun _ => 0))), (h7, .inl (cA, 60, .inl (fun _ => 0))), (h8, .inl (cA, 60, .inl (fun _ => 0))), (h9, .inl (cA, 60, .inl (fun _ => 0))), (h10, .inl (cA, 60, .inl (fun _ => 0))), (h11, .inl (cA, 60, .inl (fun _ => 0))), (h12, .inl (cA, 60, .inl (fun _ => 0))), (h13, .inl (cA, 60, .inl (fun _ => 0)))]) := by
  refine mkI (lv0 := [(0, .ref h0)]) (by decide) (Nat.le_of_ble_eq_true rfl) rfl ?_
  intro p e s m below meth c A ls X hr hlocks hnm hE hA hP hD hS hl
  have hx := X.1
  have hb := X.2.1
  refine lv_aload_n hx hb dX0_checkSecond_0 rfl (lv_at hl 0 rfl) ?_
  refine k_get (C := RX0) (T := TX0) (N := 18) (ci := 0) (v := .int (-1)) X hE hP 0 rfl rfl iX0 16 (by decide) w_243 rfl dX0_checkSecond_1 ?_
  refine lv_iconst (v := (-1)) hx hb dX0_checkSecond_4 (by decide) ?_
  refine lv_icmp_eq (tgt := 18) hx hb dX0_checkSecond_5 (by decide) (fun c_5 => ?_) (fun c_5 => absurd (by decide) c_5)
  refine lv_aload_n hx hb dX0_checkSecond_18 rfl (lv_at hl 0 rfl) ?_
  refine k_get (C := RX0) (T := TX0) (N := 18) (ci := 0) (v := .int (-1)) X hE hP 0 rfl rfl iX0 17 (by decide) w_244 rfl dX0_checkSecond_19 ?_
  refine lv_iconst (v := (-1)) hx hb dX0_checkSecond_22 (by decide) ?_
  refine lv_icmp_eq (tgt := 36) hx hb dX0_checkSecond_23 (by decide) (fun c_23 => ?_) (fun c_23 => absurd (by decide) c_23)
  refine lv_aload_n hx hb dX0_checkSecond_36 rfl (lv_at hl 0 rfl) ?_
  refine kVv (n3 := 0) (As := []) (rest := []) X hl.1 hE hP hD hS hA [(h0, .inr (0, [.ref h1, .ref h2, .ref h3, .ref h4, .int 0, .int (-1), .int 0, .int 1, .int (-1), .int 0, .int 0, .int (-1), .int 0, .int 0, .int 0, .int 0, .int (-1), .int (-1)])), (h1, .inr (7, [.ref h5, .int 0, .int 0, .int 0, .int 256, .int 0, .int 0, .int 0, .int (-1)])), (h2, .inl (cA, 4096, .inl f1)), (h3, .inr (2, [.ref h6, .ref h7, .ref h8, .ref h9, .int 0])), (h4, .inr (2, [.ref h10, .ref h11, .ref h12, .ref h13, .int 0])), (h5, .inl (cA, 6000, .inl (fun _ => 0))), (h6, .inl (cA, 60, .inl (fun _ => 0))), (h7, .inl (cA, 60, .inl (fun _ => 0))), (h8, .inl (cA, 60, .inl (fun _ => 0))), (h9, .inl (cA, 60, .inl (fun _ => 0))), (h10, .inl (cA, 60, .inl (fun _ => 0))), (h11, .inl (cA, 60, .inl (fun _ => 0))), (h12, .inl (cA, 60, .inl (fun _ => 0))), (h13, .inl (cA, 60, .inl (fun _ => 0)))] [] [0, 1, 2, 3, 4, 5, 6, 7, 8, 9, 10, 11, 12, 13] [] rfl rfl rfl (by decide) (by decide) (by decide) (c_X0_leaveSpace_a19 l D cA cB h0 h1 h2 h3 h4 h5 f1 h6 h7 h8 h9 h10 h11 h12 h13 z1) w_275 w_99 w_274 w_276 w_277 0 (ci := 0) (T := TX0) (N := 18) rfl rfl (by decide +kernel) rfl rfl (Nat.le_of_ble_eq_true rfl) ⟨(Nat.le_of_ble_eq_true rfl), (Nat.le_of_ble_eq_true rfl)⟩ ⟨(Nat.le_of_ble_eq_true rfl), (Nat.le_of_ble_eq_true rfl)⟩ dX0_checkSecond_37 (fun W1 H locs hw hP hD hS => ?_)
  obtain rfl := hw
  have hP : va_P D classes [(h0, .inr (0, [.ref h1, .ref h2, .ref h3, .ref h4, .int 0, .int (-1), .int 0, .int 1, .int (-1), .int 0, .int 0, .int (-1), .int 0, .int 0, .int 0, .int 0, .int (-1), .int (-1)])), (h1, .inr (7, [.ref h5, .int 0, .int 0, .int 0, .int 256, .int 0, .int 0, .int 0, .int (-1)])), (h2, .inl (cA, 4096, .inl f1)), (h3, .inr (2, [.ref h6, .ref h7, .ref h8, .ref h9, .int 0])), (h4, .inr (2, [.ref h10, .ref h11, .ref h12, .ref h13, .int 0])), (h5, .inl (cA, 6000, .inl (fun _ => 0))), (h6, .inl (cA, 60, .inl (fun _ => 0))), (h7, .inl (cA, 60, .inl (fun _ => 0))), (h8, .inl (cA, 60, .inl (fun _ => 0))), (h9, .inl (cA, 60, .inl (fun _ => 0))), (h10, .inl (cA, 60, .inl (fun _ => 0))), (h11, .inl (cA, 60, .inl (fun _ => 0))), (h12, .inl (cA, 60, .inl (fun _ => 0))), (h13, .inl (cA, 60, .inl (fun _ => 0)))] H := hP
  have hD : va_D A [(h0, .inr (0, [.ref h1, .ref h2, .ref h3, .ref h4, .int 0, .int (-1), .int 0, .int 1, .int (-1), .int 0, .int 0, .int (-1), .int 0, .int 0, .int 0, .int 0, .int (-1), .int (-1)])), (h1, .inr (7, [.ref h5, .int 0, .int 0, .int 0, .int 256, .int 0, .int 0, .int 0, .int (-1)])), (h2, .inl (cA, 4096, .inl f1)), (h3, .inr (2, [.ref h6, .ref h7, .ref h8, .ref h9, .int 0])), (h4, .inr (2, [.ref h10, .ref h11, .ref h12, .ref h13, .int 0])), (h5, .inl (cA, 6000, .inl (fun _ => 0))), (h6, .inl (cA, 60, .inl (fun _ => 0))), (h7, .inl (cA, 60, .inl (fun _ => 0))), (h8, .inl (cA, 60, .inl (fun _ => 0))), (h9, .inl (cA, 60, .inl (fun _ => 0))), (h10, .inl (cA, 60, .inl (fun _ => 0))), (h11, .inl (cA, 60, .inl (fun _ => 0))), (h12, .inl (cA, 60, .inl (fun _ => 0))), (h13, .inl (cA, 60, .inl (fun _ => 0)))] := hD
  refine lv_iconst (v := 1) hx hb dX0_checkSecond_40 (by decide) ?_
  exact endZ X hr rfl hlocks hP hD hS dX0_checkSecond_41 ⟨rfl, rfl⟩
set_option maxHeartbeats 4000000 in
set_option maxRecDepth 100000 in
theorem c_X0_readLines_a11 (l : Launch) (D : va_G) (cA cB : ClassId) (h0 : Nat) (h1 : Nat) (h2 : Nat) (h3 : Nat) (h4 : Nat) (h5 : Nat) (f1 : Nat → Int32) (h6 : Nat) (h7 : Nat) (h8 : Nat) (h9 : Nat) (h10 : Nat) (h11 : Nat) (h12 : Nat) (h13 : Nat) (z1 : ∀ j, j < 4096 → f1 j = 0) : CI l yX0_readLines cX0_readLines 5 (some .boolean) 2 42 0 0 D cA cB [.ref h0, .int 1] [(h0, .inr (0, [.ref h1, .ref h2, .ref h3, .ref h4, .int 0, .int (-1), .int 0, .int 0, .int (-1), .int 0, .int 0, .int (-1), .int 0, .int 0, .int 0, .int 0, .int (-1), .int (-1)])), (h1, .inr (7, [.ref h5, .int 0, .int 0, .int 0, .int 256, .int 0, .int 0, .int 0, .int (-1)])), (h2, .inl (cA, 4096, .inl f1)), (h3, .inr (2, [.ref h6, .ref h7, .ref h8, .ref h9, .int 0])), (h4, .inr (2, [.ref h10, .ref h11, .ref h12, .ref h13, .int 0])), (h5, .inl (cA, 6000, .inl (fun _ => 0))), (h6, .inl (cA, 60, .inl (fun _ => 0))), (h7, .inl (cA, 60, .inl (fun _ => 0))), (h8, .inl (cA, 60, .inl (fun _ => 0))), (h9, .inl (cA, 60, .inl (fun _ => 0))), (h10, .inl (cA, 60, .inl (fun _ => 0))), (h11, .inl (cA, 60, .inl (fun _ => 0))), (h12, .inl (cA, 60, .inl (fun _ => 0))), (h13, .inl (cA, 60, .inl (fun _ => 0)))] (fun r W1 => r = 1 ∧ W1 = [(h0, .inr (0, [.ref h1, .ref h2, .ref h3, .ref h4, .int 0, .int (-1), .int 0, .int 1, .int (-1), .int 0, .int 0, .int (-1), .int 0, .int 0, .int 0, .int 0, .int (-1), .int (-1)])), (h1, .inr (7, [.ref h5, .int 0, .int 0, .int 0, .int 256, .int 0, .int 0, .int 0, .int (-1)])), (h2, .inl (cA, 4096, .inl f1)), (h3, .inr (2, [.ref h6, .ref h7, .ref h8, .ref h9, .int 0])), (h4, .inr (2, [.ref h10, .ref h11, .ref h12, .ref h13, .int 0])), (h5, .inl (cA, 6000, .inl (fun _ => 0))), (h6, .inl (cA, 60, .inl (fun _ => 0))), (h7, .inl (cA, 60, .inl (fun _ => 0))), (h8, .inl (cA, 60, .inl (fun _ => 0))), (h9, .inl (cA, 60, .inl (fun _ => 0))), (h10, .inl (cA, 60, .inl (fun _ => 0))), (h11, .inl (cA, 60, .inl (fun _ => 0))), (h12, .inl (cA, 60, .inl (fun _ => 0))), (h13, .inl (cA, 60, .inl (fun _ => 0)))]) := by
  refine mkI (lv0 := [(0, .ref h0), (1, .int 1)]) (by decide) (Nat.le_of_ble_eq_true rfl) rfl ?_
  intro p e s m below meth c A ls X hr hlocks hnm hE hA hP hD hS hl
  have hx := X.1
  have hb := X.2.1
  refine lv_aload_n hx hb dX0_readLines_0 rfl (lv_at hl 0 rfl) ?_
  refine lv_iload_n hx hb dX0_readLines_1 rfl (lv_at hl 1 rfl) ?_
  refine k_put (C := RX0) (T := TX0) (N := 18) (ci := 0) (v := .int 1) (ty := .boolean) X hE hP hD hS 0 rfl rfl iX0 tyX0 tyX0_ok nmX0 7 (by decide) w_237 rfl (by decide +kernel) rfl rfl (Nat.le_of_ble_eq_true rfl) [(h0, .inr (0, [.ref h1, .ref h2, .ref h3, .ref h4, .int 0, .int (-1), .int 0, .int 1, .int (-1), .int 0, .int 0, .int (-1), .int 0, .int 0, .int 0, .int 0, .int (-1), .int (-1)])), (h1, .inr (7, [.ref h5, .int 0, .int 0, .int 0, .int 256, .int 0, .int 0, .int 0, .int (-1)])), (h2, .inl (cA, 4096, .inl f1)), (h3, .inr (2, [.ref h6, .ref h7, .ref h8, .ref h9, .int 0])), (h4, .inr (2, [.ref h10, .ref h11, .ref h12, .ref h13, .int 0])), (h5, .inl (cA, 6000, .inl (fun _ => 0))), (h6, .inl (cA, 60, .inl (fun _ => 0))), (h7, .inl (cA, 60, .inl (fun _ => 0))), (h8, .inl (cA, 60, .inl (fun _ => 0))), (h9, .inl (cA, 60, .inl (fun _ => 0))), (h10, .inl (cA, 60, .inl (fun _ => 0))), (h11, .inl (cA, 60, .inl (fun _ => 0))), (h12, .inl (cA, 60, .inl (fun _ => 0))), (h13, .inl (cA, 60, .inl (fun _ => 0)))] rfl dX0_readLines_2 (fun H locs hP hD hS => ?_)
  refine lv_aload_n hx hb dX0_readLines_5 rfl (lv_at hl 0 rfl) ?_
  refine lv_iconst (v := 0) hx hb dX0_readLines_6 (by decide) ?_
  refine k_put (C := RX0) (T := TX0) (N := 18) (ci := 0) (v := .int 0) (ty := .int) X hE hP hD hS 0 rfl rfl iX0 tyX0 tyX0_ok nmX0 6 (by decide) w_238 rfl (by decide +kernel) rfl rfl (Nat.le_of_ble_eq_true rfl) [(h0, .inr (0, [.ref h1, .ref h2, .ref h3, .ref h4, .int 0, .int (-1), .int 0, .int 1, .int (-1), .int 0, .int 0, .int (-1), .int 0, .int 0, .int 0, .int 0, .int (-1), .int (-1)])), (h1, .inr (7, [.ref h5, .int 0, .int 0, .int 0, .int 256, .int 0, .int 0, .int 0, .int (-1)])), (h2, .inl (cA, 4096, .inl f1)), (h3, .inr (2, [.ref h6, .ref h7, .ref h8, .ref h9, .int 0])), (h4, .inr (2, [.ref h10, .ref h11, .ref h12, .ref h13, .int 0])), (h5, .inl (cA, 6000, .inl (fun _ => 0))), (h6, .inl (cA, 60, .inl (fun _ => 0))), (h7, .inl (cA, 60, .inl (fun _ => 0))), (h8, .inl (cA, 60, .inl (fun _ => 0))), (h9, .inl (cA, 60, .inl (fun _ => 0))), (h10, .inl (cA, 60, .inl (fun _ => 0))), (h11, .inl (cA, 60, .inl (fun _ => 0))), (h12, .inl (cA, 60, .inl (fun _ => 0))), (h13, .inl (cA, 60, .inl (fun _ => 0)))] rfl dX0_readLines_7 (fun H locs hP hD hS => ?_)
  refine lv_iconst (v := 0) hx hb dX0_readLines_10 (by decide) ?_
  refine lv_istore_n (lv' := [(2, .int 0), (0, .ref h0), (1, .int 1)]) hx hb dX0_readLines_11 rfl hl (by decide) rfl (fun ls hl => ?_)
  refine lv_iconst (v := 0) hx hb dX0_readLines_12 (by decide) ?_
  refine lv_istore_n (lv' := [(3, .int 0), (2, .int 0), (0, .ref h0), (1, .int 1)]) hx hb dX0_readLines_13 rfl hl (by decide) rfl (fun ls hl => ?_)
  refine lv_iload_n hx hb dX0_readLines_14 rfl (lv_at hl 0 rfl) ?_
  refine lv_sipush (v := 6000) hx hb dX0_readLines_15 (by decide) ?_
  refine lv_icmp_gt (tgt := 138) hx hb dX0_readLines_18 (by decide) (fun c_18 => absurd c_18 (by decide)) (fun c_18 => ?_)
  refine lv_iload_n hx hb dX0_readLines_21 rfl (lv_at hl 1 rfl) ?_
  refine lv_aload_n hx hb dX0_readLines_22 rfl (lv_at hl 2 rfl) ?_
  refine k_get (C := RX0) (T := TX0) (N := 18) (ci := 0) (v := .ref h1) X hE hP 0 rfl rfl iX0 0 (by decide) w_40 rfl dX0_readLines_23 ?_
  refine k_getN (C := RX7) (T := TX7) (N := 9) (ci := 7) (v := .int 0) X hE hP 1 rfl rfl iX7 1 (by decide) nw_13 rfl dX0_readLines_26 ?_
  refine lv_icmp_gt (tgt := 138) hx hb dX0_readLines_29 (by decide) (fun c_29 => absurd c_29 (by decide)) (fun c_29 => ?_)
  refine lv_aload_n hx hb dX0_readLines_32 rfl (lv_at hl 2 rfl) ?_
  refine lv_iload_n hx hb dX0_readLines_33 rfl (lv_at hl 1 rfl) ?_
  refine kVv (n3 := 1) (As := [.int 0]) (rest := []) X hl.1 hE hP hD hS hA [(h0, .inr (0, [.ref h1, .ref h2, .ref h3, .ref h4, .int 0, .int (-1), .int 0, .int 1, .int (-1), .int 0, .int 0, .int (-1), .int 0, .int 0, .int 0, .int 0, .int (-1), .int (-1)])), (h1, .inr (7, [.ref h5, .int 0, .int 0, .int 0, .int 256, .int 0, .int 0, .int 0, .int (-1)])), (h2, .inl (cA, 4096, .inl f1)), (h3, .inr (2, [.ref h6, .ref h7, .ref h8, .ref h9, .int 0])), (h4, .inr (2, [.ref h10, .ref h11, .ref h12, .ref h13, .int 0])), (h5, .inl (cA, 6000, .inl (fun _ => 0))), (h6, .inl (cA, 60, .inl (fun _ => 0))), (h7, .inl (cA, 60, .inl (fun _ => 0))), (h8, .inl (cA, 60, .inl (fun _ => 0))), (h9, .inl (cA, 60, .inl (fun _ => 0))), (h10, .inl (cA, 60, .inl (fun _ => 0))), (h11, .inl (cA, 60, .inl (fun _ => 0))), (h12, .inl (cA, 60, .inl (fun _ => 0))), (h13, .inl (cA, 60, .inl (fun _ => 0)))] [] [0, 1, 2, 3, 4, 5, 6, 7, 8, 9, 10, 11, 12, 13] [] rfl rfl rfl (by decide) (by decide) (by decide) (c_X0_beginLine_a12 l D cA cB h0 h1 h2 h3 h4 h5 f1 h6 h7 h8 h9 h10 h11 h12 h13 z1) w_259 w_99 w_258 w_260 w_261 0 (ci := 0) (T := TX0) (N := 18) rfl rfl (by decide +kernel) rfl rfl (Nat.le_of_ble_eq_true rfl) ⟨(Nat.le_of_ble_eq_true rfl), (Nat.le_of_ble_eq_true rfl)⟩ ⟨(Nat.le_of_ble_eq_true rfl), (Nat.le_of_ble_eq_true rfl)⟩ dX0_readLines_34 (fun W1 H locs hw hP hD hS => ?_)
  obtain rfl := hw
  have hP : va_P D classes [(h0, .inr (0, [.ref h1, .ref h2, .ref h3, .ref h4, .int 0, .int (-1), .int 0, .int 1, .int (-1), .int 0, .int 0, .int (-1), .int 0, .int 0, .int 0, .int 0, .int (-1), .int (-1)])), (h2, .inl (cA, 4096, .inl f1)), (h3, .inr (2, [.ref h6, .ref h7, .ref h8, .ref h9, .int 0])), (h4, .inr (2, [.ref h10, .ref h11, .ref h12, .ref h13, .int 0])), (h6, .inl (cA, 60, .inl (fun _ => 0))), (h7, .inl (cA, 60, .inl (fun _ => 0))), (h8, .inl (cA, 60, .inl (fun _ => 0))), (h9, .inl (cA, 60, .inl (fun _ => 0))), (h10, .inl (cA, 60, .inl (fun _ => 0))), (h11, .inl (cA, 60, .inl (fun _ => 0))), (h12, .inl (cA, 60, .inl (fun _ => 0))), (h13, .inl (cA, 60, .inl (fun _ => 0))), (h1, .inr (7, [.ref h5, .int 0, .int 0, .int 0, .int 256, .int 0, .int 0, .int 0, .int (-1)])), (h5, .inl (cA, 6000, .inl (fun _ => 0)))] H := hP
  have hD : va_D A [(h0, .inr (0, [.ref h1, .ref h2, .ref h3, .ref h4, .int 0, .int (-1), .int 0, .int 1, .int (-1), .int 0, .int 0, .int (-1), .int 0, .int 0, .int 0, .int 0, .int (-1), .int (-1)])), (h2, .inl (cA, 4096, .inl f1)), (h3, .inr (2, [.ref h6, .ref h7, .ref h8, .ref h9, .int 0])), (h4, .inr (2, [.ref h10, .ref h11, .ref h12, .ref h13, .int 0])), (h6, .inl (cA, 60, .inl (fun _ => 0))), (h7, .inl (cA, 60, .inl (fun _ => 0))), (h8, .inl (cA, 60, .inl (fun _ => 0))), (h9, .inl (cA, 60, .inl (fun _ => 0))), (h10, .inl (cA, 60, .inl (fun _ => 0))), (h11, .inl (cA, 60, .inl (fun _ => 0))), (h12, .inl (cA, 60, .inl (fun _ => 0))), (h13, .inl (cA, 60, .inl (fun _ => 0))), (h1, .inr (7, [.ref h5, .int 0, .int 0, .int 0, .int 256, .int 0, .int 0, .int 0, .int (-1)])), (h5, .inl (cA, 6000, .inl (fun _ => 0)))] := hD
  refine lv_aload_n hx hb dX0_readLines_37 rfl (lv_at hl 2 rfl) ?_
  refine kVi (n3 := 0) (As := []) (rest := []) X hl.1 hE hP hD hS hA [(h0, .inr (0, [.ref h1, .ref h2, .ref h3, .ref h4, .int 0, .int (-1), .int 0, .int 1, .int (-1), .int 0, .int 0, .int (-1), .int 0, .int 0, .int 0, .int 0, .int (-1), .int (-1)])), (h1, .inr (7, [.ref h5, .int 0, .int 0, .int 0, .int 256, .int 0, .int 0, .int 0, .int (-1)])), (h2, .inl (cA, 4096, .inl f1)), (h3, .inr (2, [.ref h6, .ref h7, .ref h8, .ref h9, .int 0])), (h4, .inr (2, [.ref h10, .ref h11, .ref h12, .ref h13, .int 0])), (h5, .inl (cA, 6000, .inl (fun _ => 0))), (h6, .inl (cA, 60, .inl (fun _ => 0))), (h7, .inl (cA, 60, .inl (fun _ => 0))), (h8, .inl (cA, 60, .inl (fun _ => 0))), (h9, .inl (cA, 60, .inl (fun _ => 0))), (h10, .inl (cA, 60, .inl (fun _ => 0))), (h11, .inl (cA, 60, .inl (fun _ => 0))), (h12, .inl (cA, 60, .inl (fun _ => 0))), (h13, .inl (cA, 60, .inl (fun _ => 0)))] [] [0, 12, 1, 2, 3, 13, 4, 5, 6, 7, 8, 9, 10, 11] [] rfl rfl rfl (by decide) (by decide) (by decide) (c_X0_readName_a15 l D cA cB h0 h1 h2 h3 h4 h5 f1 h6 h7 h8 h9 h10 h11 h12 h13 z1) w_263 w_99 w_262 w_264 w_265 0 (ci := 0) (T := TX0) (N := 18) rfl rfl (by decide +kernel) rfl rfl (Nat.le_of_ble_eq_true rfl) ⟨(Nat.le_of_ble_eq_true rfl), (Nat.le_of_ble_eq_true rfl)⟩ ⟨(Nat.le_of_ble_eq_true rfl), (Nat.le_of_ble_eq_true rfl)⟩ dX0_readLines_38 (fun r W1 H locs hw hP hD hS => ?_)
  obtain ⟨rfl, rfl⟩ := hw
  have hP : va_P D classes [(h0, .inr (0, [.ref h1, .ref h2, .ref h3, .ref h4, .int 0, .int (-1), .int 0, .int 1, .int (-1), .int 0, .int 0, .int (-1), .int 0, .int 0, .int 0, .int 0, .int (-1), .int (-1)])), (h1, .inr (7, [.ref h5, .int 0, .int 0, .int 0, .int 256, .int 0, .int 0, .int 0, .int (-1)])), (h2, .inl (cA, 4096, .inl f1)), (h3, .inr (2, [.ref h6, .ref h7, .ref h8, .ref h9, .int 0])), (h4, .inr (2, [.ref h10, .ref h11, .ref h12, .ref h13, .int 0])), (h5, .inl (cA, 6000, .inl (fun _ => 0))), (h6, .inl (cA, 60, .inl (fun _ => 0))), (h7, .inl (cA, 60, .inl (fun _ => 0))), (h8, .inl (cA, 60, .inl (fun _ => 0))), (h9, .inl (cA, 60, .inl (fun _ => 0))), (h10, .inl (cA, 60, .inl (fun _ => 0))), (h11, .inl (cA, 60, .inl (fun _ => 0))), (h12, .inl (cA, 60, .inl (fun _ => 0))), (h13, .inl (cA, 60, .inl (fun _ => 0)))] H := hP
  have hD : va_D A [(h0, .inr (0, [.ref h1, .ref h2, .ref h3, .ref h4, .int 0, .int (-1), .int 0, .int 1, .int (-1), .int 0, .int 0, .int (-1), .int 0, .int 0, .int 0, .int 0, .int (-1), .int (-1)])), (h1, .inr (7, [.ref h5, .int 0, .int 0, .int 0, .int 256, .int 0, .int 0, .int 0, .int (-1)])), (h2, .inl (cA, 4096, .inl f1)), (h3, .inr (2, [.ref h6, .ref h7, .ref h8, .ref h9, .int 0])), (h4, .inr (2, [.ref h10, .ref h11, .ref h12, .ref h13, .int 0])), (h5, .inl (cA, 6000, .inl (fun _ => 0))), (h6, .inl (cA, 60, .inl (fun _ => 0))), (h7, .inl (cA, 60, .inl (fun _ => 0))), (h8, .inl (cA, 60, .inl (fun _ => 0))), (h9, .inl (cA, 60, .inl (fun _ => 0))), (h10, .inl (cA, 60, .inl (fun _ => 0))), (h11, .inl (cA, 60, .inl (fun _ => 0))), (h12, .inl (cA, 60, .inl (fun _ => 0))), (h13, .inl (cA, 60, .inl (fun _ => 0)))] := hD
  refine lv_if_eq (tgt := 83) hx hb dX0_readLines_41 (by decide) (fun c_41 => absurd c_41 (by decide)) (fun c_41 => ?_)
  refine lv_aload_n hx hb dX0_readLines_44 rfl (lv_at hl 2 rfl) ?_
  refine kVi (n3 := 0) (As := []) (rest := []) X hl.1 hE hP hD hS hA [(h0, .inr (0, [.ref h1, .ref h2, .ref h3, .ref h4, .int 0, .int (-1), .int 0, .int 1, .int (-1), .int 0, .int 0, .int (-1), .int 0, .int 0, .int 0, .int 0, .int (-1), .int (-1)])), (h1, .inr (7, [.ref h5, .int 0, .int 0, .int 0, .int 256, .int 0, .int 0, .int 0, .int (-1)])), (h2, .inl (cA, 4096, .inl f1)), (h3, .inr (2, [.ref h6, .ref h7, .ref h8, .ref h9, .int 0])), (h4, .inr (2, [.ref h10, .ref h11, .ref h12, .ref h13, .int 0])), (h5, .inl (cA, 6000, .inl (fun _ => 0))), (h6, .inl (cA, 60, .inl (fun _ => 0))), (h7, .inl (cA, 60, .inl (fun _ => 0))), (h8, .inl (cA, 60, .inl (fun _ => 0))), (h9, .inl (cA, 60, .inl (fun _ => 0))), (h10, .inl (cA, 60, .inl (fun _ => 0))), (h11, .inl (cA, 60, .inl (fun _ => 0))), (h12, .inl (cA, 60, .inl (fun _ => 0))), (h13, .inl (cA, 60, .inl (fun _ => 0)))] [] [0, 1, 2, 3, 4, 5, 6, 7, 8, 9, 10, 11, 12, 13] [] rfl rfl rfl (by decide) (by decide) (by decide) (c_X0_readWord_a16 l D cA cB h0 h1 h2 h3 h4 h5 f1 h6 h7 h8 h9 h10 h11 h12 h13 z1) w_267 w_99 w_266 w_268 w_269 0 (ci := 0) (T := TX0) (N := 18) rfl rfl (by decide +kernel) rfl rfl (Nat.le_of_ble_eq_true rfl) ⟨(Nat.le_of_ble_eq_true rfl), (Nat.le_of_ble_eq_true rfl)⟩ ⟨(Nat.le_of_ble_eq_true rfl), (Nat.le_of_ble_eq_true rfl)⟩ dX0_readLines_45 (fun r W1 H locs hw hP hD hS => ?_)
  obtain ⟨rfl, rfl⟩ := hw
  have hP : va_P D classes [(h0, .inr (0, [.ref h1, .ref h2, .ref h3, .ref h4, .int 0, .int (-1), .int 0, .int 1, .int (-1), .int 0, .int 0, .int (-1), .int 0, .int 0, .int 0, .int 0, .int (-1), .int (-1)])), (h1, .inr (7, [.ref h5, .int 0, .int 0, .int 0, .int 256, .int 0, .int 0, .int 0, .int (-1)])), (h2, .inl (cA, 4096, .inl f1)), (h3, .inr (2, [.ref h6, .ref h7, .ref h8, .ref h9, .int 0])), (h4, .inr (2, [.ref h10, .ref h11, .ref h12, .ref h13, .int 0])), (h5, .inl (cA, 6000, .inl (fun _ => 0))), (h6, .inl (cA, 60, .inl (fun _ => 0))), (h7, .inl (cA, 60, .inl (fun _ => 0))), (h8, .inl (cA, 60, .inl (fun _ => 0))), (h9, .inl (cA, 60, .inl (fun _ => 0))), (h10, .inl (cA, 60, .inl (fun _ => 0))), (h11, .inl (cA, 60, .inl (fun _ => 0))), (h12, .inl (cA, 60, .inl (fun _ => 0))), (h13, .inl (cA, 60, .inl (fun _ => 0)))] H := hP
  have hD : va_D A [(h0, .inr (0, [.ref h1, .ref h2, .ref h3, .ref h4, .int 0, .int (-1), .int 0, .int 1, .int (-1), .int 0, .int 0, .int (-1), .int 0, .int 0, .int 0, .int 0, .int (-1), .int (-1)])), (h1, .inr (7, [.ref h5, .int 0, .int 0, .int 0, .int 256, .int 0, .int 0, .int 0, .int (-1)])), (h2, .inl (cA, 4096, .inl f1)), (h3, .inr (2, [.ref h6, .ref h7, .ref h8, .ref h9, .int 0])), (h4, .inr (2, [.ref h10, .ref h11, .ref h12, .ref h13, .int 0])), (h5, .inl (cA, 6000, .inl (fun _ => 0))), (h6, .inl (cA, 60, .inl (fun _ => 0))), (h7, .inl (cA, 60, .inl (fun _ => 0))), (h8, .inl (cA, 60, .inl (fun _ => 0))), (h9, .inl (cA, 60, .inl (fun _ => 0))), (h10, .inl (cA, 60, .inl (fun _ => 0))), (h11, .inl (cA, 60, .inl (fun _ => 0))), (h12, .inl (cA, 60, .inl (fun _ => 0))), (h13, .inl (cA, 60, .inl (fun _ => 0)))] := hD
  refine lv_if_eq (tgt := 83) hx hb dX0_readLines_48 (by decide) (fun c_48 => absurd c_48 (by decide)) (fun c_48 => ?_)
  refine lv_aload_n hx hb dX0_readLines_51 rfl (lv_at hl 2 rfl) ?_
  refine kVi (n3 := 0) (As := []) (rest := []) X hl.1 hE hP hD hS hA [(h0, .inr (0, [.ref h1, .ref h2, .ref h3, .ref h4, .int 0, .int (-1), .int 0, .int 1, .int (-1), .int 0, .int 0, .int (-1), .int 0, .int 0, .int 0, .int 0, .int (-1), .int (-1)])), (h1, .inr (7, [.ref h5, .int 0, .int 0, .int 0, .int 256, .int 0, .int 0, .int 0, .int (-1)])), (h2, .inl (cA, 4096, .inl f1)), (h3, .inr (2, [.ref h6, .ref h7, .ref h8, .ref h9, .int 0])), (h4, .inr (2, [.ref h10, .ref h11, .ref h12, .ref h13, .int 0])), (h5, .inl (cA, 6000, .inl (fun _ => 0))), (h6, .inl (cA, 60, .inl (fun _ => 0))), (h7, .inl (cA, 60, .inl (fun _ => 0))), (h8, .inl (cA, 60, .inl (fun _ => 0))), (h9, .inl (cA, 60, .inl (fun _ => 0))), (h10, .inl (cA, 60, .inl (fun _ => 0))), (h11, .inl (cA, 60, .inl (fun _ => 0))), (h12, .inl (cA, 60, .inl (fun _ => 0))), (h13, .inl (cA, 60, .inl (fun _ => 0)))] [] [0, 1, 2, 3, 4, 5, 6, 7, 8, 9, 10, 11, 12, 13] [] rfl rfl rfl (by decide) (by decide) (by decide) (c_X0_readRemark_a17 l D cA cB h0 h1 h2 h3 h4 h5 f1 h6 h7 h8 h9 h10 h11 h12 h13 z1) w_271 w_99 w_270 w_272 w_273 0 (ci := 0) (T := TX0) (N := 18) rfl rfl (by decide +kernel) rfl rfl (Nat.le_of_ble_eq_true rfl) ⟨(Nat.le_of_ble_eq_true rfl), (Nat.le_of_ble_eq_true rfl)⟩ ⟨(Nat.le_of_ble_eq_true rfl), (Nat.le_of_ble_eq_true rfl)⟩ dX0_readLines_52 (fun r W1 H locs hw hP hD hS => ?_)
  obtain ⟨rfl, rfl⟩ := hw
  have hP : va_P D classes [(h0, .inr (0, [.ref h1, .ref h2, .ref h3, .ref h4, .int 0, .int (-1), .int 0, .int 1, .int (-1), .int 0, .int 0, .int (-1), .int 0, .int 0, .int 0, .int 0, .int (-1), .int (-1)])), (h1, .inr (7, [.ref h5, .int 0, .int 0, .int 0, .int 256, .int 0, .int 0, .int 0, .int (-1)])), (h2, .inl (cA, 4096, .inl f1)), (h3, .inr (2, [.ref h6, .ref h7, .ref h8, .ref h9, .int 0])), (h4, .inr (2, [.ref h10, .ref h11, .ref h12, .ref h13, .int 0])), (h5, .inl (cA, 6000, .inl (fun _ => 0))), (h6, .inl (cA, 60, .inl (fun _ => 0))), (h7, .inl (cA, 60, .inl (fun _ => 0))), (h8, .inl (cA, 60, .inl (fun _ => 0))), (h9, .inl (cA, 60, .inl (fun _ => 0))), (h10, .inl (cA, 60, .inl (fun _ => 0))), (h11, .inl (cA, 60, .inl (fun _ => 0))), (h12, .inl (cA, 60, .inl (fun _ => 0))), (h13, .inl (cA, 60, .inl (fun _ => 0)))] H := hP
  have hD : va_D A [(h0, .inr (0, [.ref h1, .ref h2, .ref h3, .ref h4, .int 0, .int (-1), .int 0, .int 1, .int (-1), .int 0, .int 0, .int (-1), .int 0, .int 0, .int 0, .int 0, .int (-1), .int (-1)])), (h1, .inr (7, [.ref h5, .int 0, .int 0, .int 0, .int 256, .int 0, .int 0, .int 0, .int (-1)])), (h2, .inl (cA, 4096, .inl f1)), (h3, .inr (2, [.ref h6, .ref h7, .ref h8, .ref h9, .int 0])), (h4, .inr (2, [.ref h10, .ref h11, .ref h12, .ref h13, .int 0])), (h5, .inl (cA, 6000, .inl (fun _ => 0))), (h6, .inl (cA, 60, .inl (fun _ => 0))), (h7, .inl (cA, 60, .inl (fun _ => 0))), (h8, .inl (cA, 60, .inl (fun _ => 0))), (h9, .inl (cA, 60, .inl (fun _ => 0))), (h10, .inl (cA, 60, .inl (fun _ => 0))), (h11, .inl (cA, 60, .inl (fun _ => 0))), (h12, .inl (cA, 60, .inl (fun _ => 0))), (h13, .inl (cA, 60, .inl (fun _ => 0)))] := hD
  refine lv_if_eq (tgt := 83) hx hb dX0_readLines_55 (by decide) (fun c_55 => absurd c_55 (by decide)) (fun c_55 => ?_)
  refine lv_iload_n hx hb dX0_readLines_58 rfl (lv_at hl 3 rfl) ?_
  refine lv_if_eq (tgt := 72) hx hb dX0_readLines_59 (by decide) (fun c_59 => absurd c_59 (by decide)) (fun c_59 => ?_)
  refine lv_aload_n hx hb dX0_readLines_62 rfl (lv_at hl 2 rfl) ?_
  refine kVi (n3 := 0) (As := []) (rest := []) X hl.1 hE hP hD hS hA [(h0, .inr (0, [.ref h1, .ref h2, .ref h3, .ref h4, .int 0, .int (-1), .int 0, .int 1, .int (-1), .int 0, .int 0, .int (-1), .int 0, .int 0, .int 0, .int 0, .int (-1), .int (-1)])), (h1, .inr (7, [.ref h5, .int 0, .int 0, .int 0, .int 256, .int 0, .int 0, .int 0, .int (-1)])), (h2, .inl (cA, 4096, .inl f1)), (h3, .inr (2, [.ref h6, .ref h7, .ref h8, .ref h9, .int 0])), (h4, .inr (2, [.ref h10, .ref h11, .ref h12, .ref h13, .int 0])), (h5, .inl (cA, 6000, .inl (fun _ => 0))), (h6, .inl (cA, 60, .inl (fun _ => 0))), (h7, .inl (cA, 60, .inl (fun _ => 0))), (h8, .inl (cA, 60, .inl (fun _ => 0))), (h9, .inl (cA, 60, .inl (fun _ => 0))), (h10, .inl (cA, 60, .inl (fun _ => 0))), (h11, .inl (cA, 60, .inl (fun _ => 0))), (h12, .inl (cA, 60, .inl (fun _ => 0))), (h13, .inl (cA, 60, .inl (fun _ => 0)))] [] [0, 1, 2, 3, 4, 5, 6, 7, 8, 9, 10, 11, 12, 13] [] rfl rfl rfl (by decide) (by decide) (by decide) (c_X0_checkSecond_a18 l D cA cB h0 h1 h2 h3 h4 h5 f1 h6 h7 h8 h9 h10 h11 h12 h13 z1) w_287 w_99 w_286 w_288 w_289 0 (ci := 0) (T := TX0) (N := 18) rfl rfl (by decide +kernel) rfl rfl (Nat.le_of_ble_eq_true rfl) ⟨(Nat.le_of_ble_eq_true rfl), (Nat.le_of_ble_eq_true rfl)⟩ ⟨(Nat.le_of_ble_eq_true rfl), (Nat.le_of_ble_eq_true rfl)⟩ dX0_readLines_63 (fun r W1 H locs hw hP hD hS => ?_)
  obtain ⟨rfl, rfl⟩ := hw
  have hP : va_P D classes [(h0, .inr (0, [.ref h1, .ref h2, .ref h3, .ref h4, .int 0, .int (-1), .int 0, .int 1, .int (-1), .int 0, .int 0, .int (-1), .int 0, .int 0, .int 0, .int 0, .int (-1), .int (-1)])), (h1, .inr (7, [.ref h5, .int 0, .int 0, .int 0, .int 256, .int 0, .int 0, .int 0, .int (-1)])), (h2, .inl (cA, 4096, .inl f1)), (h3, .inr (2, [.ref h6, .ref h7, .ref h8, .ref h9, .int 0])), (h4, .inr (2, [.ref h10, .ref h11, .ref h12, .ref h13, .int 0])), (h5, .inl (cA, 6000, .inl (fun _ => 0))), (h6, .inl (cA, 60, .inl (fun _ => 0))), (h7, .inl (cA, 60, .inl (fun _ => 0))), (h8, .inl (cA, 60, .inl (fun _ => 0))), (h9, .inl (cA, 60, .inl (fun _ => 0))), (h10, .inl (cA, 60, .inl (fun _ => 0))), (h11, .inl (cA, 60, .inl (fun _ => 0))), (h12, .inl (cA, 60, .inl (fun _ => 0))), (h13, .inl (cA, 60, .inl (fun _ => 0)))] H := hP
  have hD : va_D A [(h0, .inr (0, [.ref h1, .ref h2, .ref h3, .ref h4, .int 0, .int (-1), .int 0, .int 1, .int (-1), .int 0, .int 0, .int (-1), .int 0, .int 0, .int 0, .int 0, .int (-1), .int (-1)])), (h1, .inr (7, [.ref h5, .int 0, .int 0, .int 0, .int 256, .int 0, .int 0, .int 0, .int (-1)])), (h2, .inl (cA, 4096, .inl f1)), (h3, .inr (2, [.ref h6, .ref h7, .ref h8, .ref h9, .int 0])), (h4, .inr (2, [.ref h10, .ref h11, .ref h12, .ref h13, .int 0])), (h5, .inl (cA, 6000, .inl (fun _ => 0))), (h6, .inl (cA, 60, .inl (fun _ => 0))), (h7, .inl (cA, 60, .inl (fun _ => 0))), (h8, .inl (cA, 60, .inl (fun _ => 0))), (h9, .inl (cA, 60, .inl (fun _ => 0))), (h10, .inl (cA, 60, .inl (fun _ => 0))), (h11, .inl (cA, 60, .inl (fun _ => 0))), (h12, .inl (cA, 60, .inl (fun _ => 0))), (h13, .inl (cA, 60, .inl (fun _ => 0)))] := hD
  refine lv_if_eq (tgt := 83) hx hb dX0_readLines_66 (by decide) (fun c_66 => absurd c_66 (by decide)) (fun c_66 => ?_)
  refine lv_goto (tgt := 79) hx hb dX0_readLines_69 (by decide) ?_
  refine lv_iconst (v := 1) hx hb dX0_readLines_79 (by decide) ?_
  refine lv_goto (tgt := 84) hx hb dX0_readLines_80 (by decide) ?_
  refine lv_istore (lv' := [(4, .int 1), (3, .int 0), (2, .int 0), (0, .ref h0), (1, .int 1)]) hx hb dX0_readLines_84 hl (by decide) rfl (fun ls hl => ?_)
  refine lv_iload hx hb dX0_readLines_86 (lv_at hl 0 rfl) ?_
  refine lv_if_ne (tgt := 93) hx hb dX0_readLines_88 (by decide) (fun c_88 => ?_) (fun c_88 => absurd c_88 (by decide))
  refine lv_aload_n hx hb dX0_readLines_93 rfl (lv_at hl 3 rfl) ?_
  refine lv_aload_n hx hb dX0_readLines_94 rfl (lv_at hl 3 rfl) ?_
  refine k_get (C := RX0) (T := TX0) (N := 18) (ci := 0) (v := .int (-1)) X hE hP 0 rfl rfl iX0 11 (by decide) w_241 rfl dX0_readLines_95 ?_
  refine lv_bipush (v := 80) hx hb dX0_readLines_98 (by decide) ?_
  refine lv_icmp_ne (tgt := 110) hx hb dX0_readLines_100 (by decide) (fun c_100 => ?_) (fun c_100 => absurd c_100 (by decide))
  refine lv_aload_n hx hb dX0_readLines_110 rfl (lv_at hl 3 rfl) ?_
  refine k_get (C := RX0) (T := TX0) (N := 18) (ci := 0) (v := .int 0) X hE hP 0 rfl rfl iX0 6 (by decide) w_238 rfl dX0_readLines_111 ?_
  refine lv_aload_n hx hb dX0_readLines_114 rfl (lv_at hl 3 rfl) ?_
  refine k_get (C := RX0) (T := TX0) (N := 18) (ci := 0) (v := .int 0) X hE hP 0 rfl rfl iX0 13 (by decide) w_242 rfl dX0_readLines_115 ?_
  refine lv_iadd hx hb dX0_readLines_118 ?_
  refine tk (y := 0) (by decide) ?_
  refine k_put (C := RX0) (T := TX0) (N := 18) (ci := 0) (v := .int 0) (ty := .int) X hE hP hD hS 0 rfl rfl iX0 tyX0 tyX0_ok nmX0 6 (by decide) w_238 rfl (by decide +kernel) rfl rfl (Nat.le_of_ble_eq_true rfl) [(h0, .inr (0, [.ref h1, .ref h2, .ref h3, .ref h4, .int 0, .int (-1), .int 0, .int 1, .int (-1), .int 0, .int 0, .int (-1), .int 0, .int 0, .int 0, .int 0, .int (-1), .int (-1)])), (h1, .inr (7, [.ref h5, .int 0, .int 0, .int 0, .int 256, .int 0, .int 0, .int 0, .int (-1)])), (h2, .inl (cA, 4096, .inl f1)), (h3, .inr (2, [.ref h6, .ref h7, .ref h8, .ref h9, .int 0])), (h4, .inr (2, [.ref h10, .ref h11, .ref h12, .ref h13, .int 0])), (h5, .inl (cA, 6000, .inl (fun _ => 0))), (h6, .inl (cA, 60, .inl (fun _ => 0))), (h7, .inl (cA, 60, .inl (fun _ => 0))), (h8, .inl (cA, 60, .inl (fun _ => 0))), (h9, .inl (cA, 60, .inl (fun _ => 0))), (h10, .inl (cA, 60, .inl (fun _ => 0))), (h11, .inl (cA, 60, .inl (fun _ => 0))), (h12, .inl (cA, 60, .inl (fun _ => 0))), (h13, .inl (cA, 60, .inl (fun _ => 0)))] rfl dX0_readLines_119 (fun H locs hP hD hS => ?_)
  refine lv_aload_n hx hb dX0_readLines_122 rfl (lv_at hl 3 rfl) ?_
  refine k_get (C := RX0) (T := TX0) (N := 18) (ci := 0) (v := .ref h1) X hE hP 0 rfl rfl iX0 0 (by decide) w_40 rfl dX0_readLines_123 ?_
  refine k_getN (C := RX7) (T := TX7) (N := 9) (ci := 7) (v := .int 0) X hE hP 1 rfl rfl iX7 2 (by decide) nw_14 rfl dX0_readLines_126 ?_
  refine lv_iconst (v := 1) hx hb dX0_readLines_129 (by decide) ?_
  refine lv_iadd hx hb dX0_readLines_130 ?_
  refine tk (y := 1) (by decide) ?_
  refine lv_istore_n (lv' := [(2, .int 1), (4, .int 1), (3, .int 0), (0, .ref h0), (1, .int 1)]) hx hb dX0_readLines_131 rfl hl (by decide) rfl (fun ls hl => ?_)
  refine lv_iinc (v := 1) (lv' := [(3, .int 1), (2, .int 1), (4, .int 1), (0, .ref h0), (1, .int 1)]) hx hb dX0_readLines_132 hl (k := 2) rfl (by decide) (by decide) rfl (fun ls hl => ?_)
  refine lv_goto (tgt := 14) hx hb dX0_readLines_135 (by decide) ?_
  refine lv_iload_n hx hb dX0_readLines_14 rfl (lv_at hl 0 rfl) ?_
  refine lv_sipush (v := 6000) hx hb dX0_readLines_15 (by decide) ?_
  refine lv_icmp_gt (tgt := 138) hx hb dX0_readLines_18 (by decide) (fun c_18_1 => absurd c_18_1 (by decide)) (fun c_18_1 => ?_)
  refine lv_iload_n hx hb dX0_readLines_21 rfl (lv_at hl 1 rfl) ?_
  refine lv_aload_n hx hb dX0_readLines_22 rfl (lv_at hl 3 rfl) ?_
  refine k_get (C := RX0) (T := TX0) (N := 18) (ci := 0) (v := .ref h1) X hE hP 0 rfl rfl iX0 0 (by decide) w_40 rfl dX0_readLines_23 ?_
  refine k_getN (C := RX7) (T := TX7) (N := 9) (ci := 7) (v := .int 0) X hE hP 1 rfl rfl iX7 1 (by decide) nw_13 rfl dX0_readLines_26 ?_
  refine lv_icmp_gt (tgt := 138) hx hb dX0_readLines_29 (by decide) (fun c_29_2 => ?_) (fun c_29_2 => absurd (by decide) c_29_2)
  refine lv_iconst (v := 1) hx hb dX0_readLines_138 (by decide) ?_
  exact endZ X hr rfl hlocks hP hD hS dX0_readLines_139 ⟨rfl, rfl⟩
set_option maxHeartbeats 4000000 in
set_option maxRecDepth 100000 in
theorem c_X0_settle_a20 (l : Launch) (D : va_G) (cA cB : ClassId) (h0 : Nat) (h1 : Nat) (h2 : Nat) (h3 : Nat) (h4 : Nat) (h5 : Nat) (h6 : Nat) (f1 : Nat → Int32) (h7 : Nat) (h8 : Nat) (h9 : Nat) (h10 : Nat) (h11 : Nat) (h12 : Nat) (h13 : Nat) (h14 : Nat) (z1 : ∀ j, j < 4096 → f1 j = 0) : CV l yX0_settle cX0_settle 3 none 1 40 0 0 D cA cB [.ref h0, .ref h1] [(h0, .inr (0, [.ref h2, .ref h3, .ref h4, .ref h5, .int 0, .int (-1), .int 0, .int 1, .int (-1), .int 0, .int 0, .int (-1), .int 0, .int 0, .int 0, .int 0, .int (-1), .int (-1)])), (h1, .inl (cA, 4096, .inl (fun _ => 0))), (h2, .inr (7, [.ref h6, .int 0, .int 0, .int 0, .int 256, .int 0, .int 0, .int 0, .int (-1)])), (h3, .inl (cA, 4096, .inl f1)), (h4, .inr (2, [.ref h7, .ref h8, .ref h9, .ref h10, .int 0])), (h5, .inr (2, [.ref h11, .ref h12, .ref h13, .ref h14, .int 0])), (h6, .inl (cA, 6000, .inl (fun _ => 0))), (h7, .inl (cA, 60, .inl (fun _ => 0))), (h8, .inl (cA, 60, .inl (fun _ => 0))), (h9, .inl (cA, 60, .inl (fun _ => 0))), (h10, .inl (cA, 60, .inl (fun _ => 0))), (h11, .inl (cA, 60, .inl (fun _ => 0))), (h12, .inl (cA, 60, .inl (fun _ => 0))), (h13, .inl (cA, 60, .inl (fun _ => 0))), (h14, .inl (cA, 60, .inl (fun _ => 0)))] (fun W1 => ∃ (o0 : Nat → Int32), W1 = [(h0, .inr (0, [.ref h2, .ref h3, .ref h5, .ref h4, .int 0, .int (-1), .int 0, .int 1, .int (-1), .int 0, .int 0, .int (-1), .int 0, .int 0, .int 0, .int 0, .int (-1), .int (-1)])), (h1, .inl (cA, 4096, .inl o0)), (h2, .inr (7, [.ref h6, .int 0, .int 0, .int 0, .int 256, .int 0, .int 0, .int 0, .int (-1)])), (h3, .inl (cA, 4096, .inl f1)), (h4, .inr (2, [.ref h7, .ref h8, .ref h9, .ref h10, .int 0])), (h5, .inr (2, [.ref h11, .ref h12, .ref h13, .ref h14, .int 0])), (h6, .inl (cA, 6000, .inl (fun _ => 0))), (h7, .inl (cA, 60, .inl (fun _ => 0))), (h8, .inl (cA, 60, .inl (fun _ => 0))), (h9, .inl (cA, 60, .inl (fun _ => 0))), (h10, .inl (cA, 60, .inl (fun _ => 0))), (h11, .inl (cA, 60, .inl (fun _ => 0))), (h12, .inl (cA, 60, .inl (fun _ => 0))), (h13, .inl (cA, 60, .inl (fun _ => 0))), (h14, .inl (cA, 60, .inl (fun _ => 0)))]) := by
  refine mkV (lv0 := [(0, .ref h0), (1, .ref h1)]) (by decide) (Nat.le_of_ble_eq_true rfl) rfl ?_
  intro p e s m below meth c A ls X hr hlocks hnm hE hA hP hD hS hl
  have hx := X.1
  have hb := X.2.1
  refine lv_aload_n hx hb dX0_settle_0 rfl (lv_at hl 0 rfl) ?_
  refine k_get (C := RX0) (T := TX0) (N := 18) (ci := 0) (v := .ref h3) X hE hP 0 rfl rfl iX0 1 (by decide) w_30 rfl dX0_settle_1 ?_
  refine lv_iconst (v := 0) hx hb dX0_settle_4 (by decide) ?_
  refine lv_aload_n hx hb dX0_settle_5 rfl (lv_at hl 1 rfl) ?_
  refine lv_iconst (v := 0) hx hb dX0_settle_6 (by decide) ?_
  refine lv_sipush (v := 4096) hx hb dX0_settle_7 (by decide) ?_
  refine va_copyi (ty := .int) hx hb (X.2.2.1.trans hl.1.symm) X.2.2.2.1 (X.2.2.2.2 _ w_290) (X.2.2.2.2 _ w_167) (X.2.2.2.2 _ w_168) (X.2.2.2.2 _ w_169) hE.1 hP hD hS 3 1 0 0 rfl rfl rfl rfl rfl (by decide) (by decide) (by decide) (by decide) (by decide) (fun _ _ => rfl) (Nat.le_of_ble_eq_true rfl) (Nat.le_of_ble_eq_true rfl) dX0_settle_10 (fun H locs hP hD hS => ?_)
  obtain ⟨g_1, eg_1⟩ : ∃ z, z = va_cpy f1 (fun _ => 0) (0 : Int32).toNatClampNeg (0 : Int32).toNatClampNeg (4096 : Int32).toNatClampNeg := ⟨_, rfl⟩
  rw [← eg_1] at hP hD
  have hP : va_P D classes [(h0, .inr (0, [.ref h2, .ref h3, .ref h4, .ref h5, .int 0, .int (-1), .int 0, .int 1, .int (-1), .int 0, .int 0, .int (-1), .int 0, .int 0, .int 0, .int 0, .int (-1), .int (-1)])), (h1, .inl (cA, 4096, .inl g_1)), (h2, .inr (7, [.ref h6, .int 0, .int 0, .int 0, .int 256, .int 0, .int 0, .int 0, .int (-1)])), (h3, .inl (cA, 4096, .inl f1)), (h4, .inr (2, [.ref h7, .ref h8, .ref h9, .ref h10, .int 0])), (h5, .inr (2, [.ref h11, .ref h12, .ref h13, .ref h14, .int 0])), (h6, .inl (cA, 6000, .inl (fun _ => 0))), (h7, .inl (cA, 60, .inl (fun _ => 0))), (h8, .inl (cA, 60, .inl (fun _ => 0))), (h9, .inl (cA, 60, .inl (fun _ => 0))), (h10, .inl (cA, 60, .inl (fun _ => 0))), (h11, .inl (cA, 60, .inl (fun _ => 0))), (h12, .inl (cA, 60, .inl (fun _ => 0))), (h13, .inl (cA, 60, .inl (fun _ => 0))), (h14, .inl (cA, 60, .inl (fun _ => 0)))] H := hP
  have hD : va_D A [(h0, .inr (0, [.ref h2, .ref h3, .ref h4, .ref h5, .int 0, .int (-1), .int 0, .int 1, .int (-1), .int 0, .int 0, .int (-1), .int 0, .int 0, .int 0, .int 0, .int (-1), .int (-1)])), (h1, .inl (cA, 4096, .inl g_1)), (h2, .inr (7, [.ref h6, .int 0, .int 0, .int 0, .int 256, .int 0, .int 0, .int 0, .int (-1)])), (h3, .inl (cA, 4096, .inl f1)), (h4, .inr (2, [.ref h7, .ref h8, .ref h9, .ref h10, .int 0])), (h5, .inr (2, [.ref h11, .ref h12, .ref h13, .ref h14, .int 0])), (h6, .inl (cA, 6000, .inl (fun _ => 0))), (h7, .inl (cA, 60, .inl (fun _ => 0))), (h8, .inl (cA, 60, .inl (fun _ => 0))), (h9, .inl (cA, 60, .inl (fun _ => 0))), (h10, .inl (cA, 60, .inl (fun _ => 0))), (h11, .inl (cA, 60, .inl (fun _ => 0))), (h12, .inl (cA, 60, .inl (fun _ => 0))), (h13, .inl (cA, 60, .inl (fun _ => 0))), (h14, .inl (cA, 60, .inl (fun _ => 0)))] := hD
  refine lv_aload_n hx hb dX0_settle_13 rfl (lv_at hl 0 rfl) ?_
  refine k_get (C := RX0) (T := TX0) (N := 18) (ci := 0) (v := .ref h5) X hE hP 0 rfl rfl iX0 3 (by decide) w_37 rfl dX0_settle_14 ?_
  refine lv_astore_n (lv' := [(2, .ref h5), (0, .ref h0), (1, .ref h1)]) hx hb dX0_settle_17 rfl hl (by decide) rfl (fun ls hl => ?_)
  refine lv_aload_n hx hb dX0_settle_18 rfl (lv_at hl 1 rfl) ?_
  refine lv_aload_n hx hb dX0_settle_19 rfl (lv_at hl 1 rfl) ?_
  refine k_get (C := RX0) (T := TX0) (N := 18) (ci := 0) (v := .ref h4) X hE hP 0 rfl rfl iX0 2 (by decide) w_36 rfl dX0_settle_20 ?_
  refine k_put (C := RX0) (T := TX0) (N := 18) (ci := 0) (v := .ref h4) (ty := (.object "BelfryBox$Names")) X hE hP hD hS 0 rfl rfl iX0 tyX0 tyX0_ok nmX0 3 (by decide) w_37 rfl (by decide +kernel) rfl rfl (Nat.le_of_ble_eq_true rfl) [(h0, .inr (0, [.ref h2, .ref h3, .ref h4, .ref h4, .int 0, .int (-1), .int 0, .int 1, .int (-1), .int 0, .int 0, .int (-1), .int 0, .int 0, .int 0, .int 0, .int (-1), .int (-1)])), (h1, .inl (cA, 4096, .inl g_1)), (h2, .inr (7, [.ref h6, .int 0, .int 0, .int 0, .int 256, .int 0, .int 0, .int 0, .int (-1)])), (h3, .inl (cA, 4096, .inl f1)), (h4, .inr (2, [.ref h7, .ref h8, .ref h9, .ref h10, .int 0])), (h5, .inr (2, [.ref h11, .ref h12, .ref h13, .ref h14, .int 0])), (h6, .inl (cA, 6000, .inl (fun _ => 0))), (h7, .inl (cA, 60, .inl (fun _ => 0))), (h8, .inl (cA, 60, .inl (fun _ => 0))), (h9, .inl (cA, 60, .inl (fun _ => 0))), (h10, .inl (cA, 60, .inl (fun _ => 0))), (h11, .inl (cA, 60, .inl (fun _ => 0))), (h12, .inl (cA, 60, .inl (fun _ => 0))), (h13, .inl (cA, 60, .inl (fun _ => 0))), (h14, .inl (cA, 60, .inl (fun _ => 0)))] rfl dX0_settle_23 (fun H locs hP hD hS => ?_)
  refine lv_aload_n hx hb dX0_settle_26 rfl (lv_at hl 1 rfl) ?_
  refine lv_aload_n hx hb dX0_settle_27 rfl (lv_at hl 0 rfl) ?_
  refine k_put (C := RX0) (T := TX0) (N := 18) (ci := 0) (v := .ref h5) (ty := (.object "BelfryBox$Names")) X hE hP hD hS 0 rfl rfl iX0 tyX0 tyX0_ok nmX0 2 (by decide) w_36 rfl (by decide +kernel) rfl rfl (Nat.le_of_ble_eq_true rfl) [(h0, .inr (0, [.ref h2, .ref h3, .ref h5, .ref h4, .int 0, .int (-1), .int 0, .int 1, .int (-1), .int 0, .int 0, .int (-1), .int 0, .int 0, .int 0, .int 0, .int (-1), .int (-1)])), (h1, .inl (cA, 4096, .inl g_1)), (h2, .inr (7, [.ref h6, .int 0, .int 0, .int 0, .int 256, .int 0, .int 0, .int 0, .int (-1)])), (h3, .inl (cA, 4096, .inl f1)), (h4, .inr (2, [.ref h7, .ref h8, .ref h9, .ref h10, .int 0])), (h5, .inr (2, [.ref h11, .ref h12, .ref h13, .ref h14, .int 0])), (h6, .inl (cA, 6000, .inl (fun _ => 0))), (h7, .inl (cA, 60, .inl (fun _ => 0))), (h8, .inl (cA, 60, .inl (fun _ => 0))), (h9, .inl (cA, 60, .inl (fun _ => 0))), (h10, .inl (cA, 60, .inl (fun _ => 0))), (h11, .inl (cA, 60, .inl (fun _ => 0))), (h12, .inl (cA, 60, .inl (fun _ => 0))), (h13, .inl (cA, 60, .inl (fun _ => 0))), (h14, .inl (cA, 60, .inl (fun _ => 0)))] rfl dX0_settle_28 (fun H locs hP hD hS => ?_)
  exact endV X hr hlocks hP hD hS dX0_settle_31 ⟨g_1, rfl⟩
set_option maxHeartbeats 4000000 in
set_option maxRecDepth 100000 in
theorem c_assemble (l : Launch) (D : va_G) (cA cB : ClassId) (h0 : Nat) (qn : Nat) (qs : Nat) (qd : Nat) (qp : Nat) (qr : Nat) (qt : Nat) (qa : Nat) (qm : Nat) (qe : Nat) (f : Nat → Int32) (qpe : Nat) (qrc : Nat) (gc : Nat → Int32) (qab : Nat) (qmi : Nat) (qmt : Nat) (qms : Nat) (qmta : Nat) (qmtb : Nat) (qmtc : Nat) (qmtd : Nat) (qmsa : Nat) (qmsb : Nat) (qmsc : Nat) (qmsd : Nat) (hfr : frn f) (hgc : ∀ j, j < 257 → gc j = 0) : CI l yX8_assemble cX8_assemble 2 (some .int) 4 82 0 0 D cA cB [.ref h0] [(h0, .inr (8, [.ref qn, .ref qs, .ref qd, .ref qp, .ref qr, .ref qt, .ref qa, .ref qm, .ref qe])), (qn, .inl (cA, 34, .inl f)), (qs, .inl (cA, 4096, .inl (fun _ => 0))), (qp, .inr (3, [.ref qpe, .int 0, .int 0])), (qr, .inr (4, [.ref qn, .ref qs, .ref qd, .ref qp, .ref qrc, .int 0, .int 0])), (qrc, .inl (cA, 257, .inl gc)), (qa, .inr (7, [.ref qab, .int 0, .int 0, .int 0, .int 0, .int 0, .int 0, .int 0, .int 0])), (qab, .inl (cA, 6000, .inl (fun _ => 0))), (qm, .inr (0, [.ref qa, .ref qmi, .ref qmt, .ref qms, .int (-1), .int (-1), .int 0, .int 0, .int 0, .int 0, .int 0, .int 0, .int 0, .int 0, .int 0, .int 0, .int 0, .int 0])), (qmi, .inl (cA, 4096, .inl (fun _ => 0))), (qmt, .inr (2, [.ref qmta, .ref qmtb, .ref qmtc, .ref qmtd, .int 0])), (qmta, .inl (cA, 60, .inl (fun _ => 0))), (qmtb, .inl (cA, 60, .inl (fun _ => 0))), (qmtc, .inl (cA, 60, .inl (fun _ => 0))), (qmtd, .inl (cA, 60, .inl (fun _ => 0))), (qms, .inr (2, [.ref qmsa, .ref qmsb, .ref qmsc, .ref qmsd, .int 0])), (qmsa, .inl (cA, 60, .inl (fun _ => 0))), (qmsb, .inl (cA, 60, .inl (fun _ => 0))), (qmsc, .inl (cA, 60, .inl (fun _ => 0))), (qmsd, .inl (cA, 60, .inl (fun _ => 0)))] (fun r W1 => r = 0) := by
  refine mkI (lv0 := [(0, .ref h0)]) (by decide) (Nat.le_of_ble_eq_true rfl) rfl ?_
  intro p e s m below meth c A ls X hr hlocks hnm hE hA hP hD hS hl
  have hx := X.1
  have hb := X.2.1
  refine lv_aload_n hx hb dX8_assemble_0 rfl (lv_at hl 0 rfl) ?_
  refine k_get (C := RX8) (T := TX8) (N := 9) (ci := 8) (v := .ref qm) X hE hP 0 rfl rfl iX8 7 (by decide) w_103 rfl dX8_assemble_1 ?_
  refine kVv (n3 := 0) (As := []) (rest := []) X hl.1 hE hP hD hS hA [(qm, .inr (0, [.ref qa, .ref qmi, .ref qmt, .ref qms, .int (-1), .int (-1), .int 0, .int 0, .int 0, .int 0, .int 0, .int 0, .int 0, .int 0, .int 0, .int 0, .int 0, .int 0])), (qa, .inr (7, [.ref qab, .int 0, .int 0, .int 0, .int 0, .int 0, .int 0, .int 0, .int 0])), (qmi, .inl (cA, 4096, .inl (fun _ => 0))), (qmt, .inr (2, [.ref qmta, .ref qmtb, .ref qmtc, .ref qmtd, .int 0])), (qms, .inr (2, [.ref qmsa, .ref qmsb, .ref qmsc, .ref qmsd, .int 0])), (qab, .inl (cA, 6000, .inl (fun _ => 0))), (qmta, .inl (cA, 60, .inl (fun _ => 0))), (qmtb, .inl (cA, 60, .inl (fun _ => 0))), (qmtc, .inl (cA, 60, .inl (fun _ => 0))), (qmtd, .inl (cA, 60, .inl (fun _ => 0))), (qmsa, .inl (cA, 60, .inl (fun _ => 0))), (qmsb, .inl (cA, 60, .inl (fun _ => 0))), (qmsc, .inl (cA, 60, .inl (fun _ => 0))), (qmsd, .inl (cA, 60, .inl (fun _ => 0)))] [(h0, .inr (8, [.ref qn, .ref qs, .ref qd, .ref qp, .ref qr, .ref qt, .ref qa, .ref qm, .ref qe])), (qn, .inl (cA, 34, .inl f)), (qs, .inl (cA, 4096, .inl (fun _ => 0))), (qp, .inr (3, [.ref qpe, .int 0, .int 0])), (qr, .inr (4, [.ref qn, .ref qs, .ref qd, .ref qp, .ref qrc, .int 0, .int 0])), (qrc, .inl (cA, 257, .inl gc))] [8, 6, 9, 10, 15, 7, 11, 12, 13, 14, 16, 17, 18, 19] [0, 1, 2, 3, 4, 5] rfl rfl rfl (by decide) (by decide) (by decide) (c_X0_begin_a1 l D cA cB qm qa qmi qmt qms qab qmta qmtb qmtc qmtd qmsa qmsb qmsc qmsd ) w_234 w_99 w_233 w_235 w_236 0 (ci := 0) (T := TX0) (N := 18) rfl rfl (by decide +kernel) rfl rfl (Nat.le_of_ble_eq_true rfl) ⟨(Nat.le_of_ble_eq_true rfl), (Nat.le_of_ble_eq_true rfl)⟩ ⟨(Nat.le_of_ble_eq_true rfl), (Nat.le_of_ble_eq_true rfl)⟩ dX8_assemble_4 (fun W1 H locs hw hP hD hS => ?_)
  obtain ⟨o0_1, hf_2, rfl⟩ := hw
  have hP : va_P D classes [(h0, .inr (8, [.ref qn, .ref qs, .ref qd, .ref qp, .ref qr, .ref qt, .ref qa, .ref qm, .ref qe])), (qn, .inl (cA, 34, .inl f)), (qs, .inl (cA, 4096, .inl (fun _ => 0))), (qp, .inr (3, [.ref qpe, .int 0, .int 0])), (qr, .inr (4, [.ref qn, .ref qs, .ref qd, .ref qp, .ref qrc, .int 0, .int 0])), (qrc, .inl (cA, 257, .inl gc)), (qm, .inr (0, [.ref qa, .ref qmi, .ref qmt, .ref qms, .int 0, .int (-1), .int 0, .int 0, .int 0, .int 0, .int 0, .int 0, .int 0, .int 0, .int 0, .int 0, .int 0, .int 0])), (qa, .inr (7, [.ref qab, .int 0, .int 0, .int 0, .int 0, .int 0, .int 0, .int 0, .int 0])), (qmt, .inr (2, [.ref qmta, .ref qmtb, .ref qmtc, .ref qmtd, .int 0])), (qms, .inr (2, [.ref qmsa, .ref qmsb, .ref qmsc, .ref qmsd, .int 0])), (qab, .inl (cA, 6000, .inl (fun _ => 0))), (qmta, .inl (cA, 60, .inl (fun _ => 0))), (qmtb, .inl (cA, 60, .inl (fun _ => 0))), (qmtc, .inl (cA, 60, .inl (fun _ => 0))), (qmtd, .inl (cA, 60, .inl (fun _ => 0))), (qmsa, .inl (cA, 60, .inl (fun _ => 0))), (qmsb, .inl (cA, 60, .inl (fun _ => 0))), (qmsc, .inl (cA, 60, .inl (fun _ => 0))), (qmsd, .inl (cA, 60, .inl (fun _ => 0))), (qmi, .inl (cA, 4096, .inl o0_1))] H := hP
  have hD : va_D A [(h0, .inr (8, [.ref qn, .ref qs, .ref qd, .ref qp, .ref qr, .ref qt, .ref qa, .ref qm, .ref qe])), (qn, .inl (cA, 34, .inl f)), (qs, .inl (cA, 4096, .inl (fun _ => 0))), (qp, .inr (3, [.ref qpe, .int 0, .int 0])), (qr, .inr (4, [.ref qn, .ref qs, .ref qd, .ref qp, .ref qrc, .int 0, .int 0])), (qrc, .inl (cA, 257, .inl gc)), (qm, .inr (0, [.ref qa, .ref qmi, .ref qmt, .ref qms, .int 0, .int (-1), .int 0, .int 0, .int 0, .int 0, .int 0, .int 0, .int 0, .int 0, .int 0, .int 0, .int 0, .int 0])), (qa, .inr (7, [.ref qab, .int 0, .int 0, .int 0, .int 0, .int 0, .int 0, .int 0, .int 0])), (qmt, .inr (2, [.ref qmta, .ref qmtb, .ref qmtc, .ref qmtd, .int 0])), (qms, .inr (2, [.ref qmsa, .ref qmsb, .ref qmsc, .ref qmsd, .int 0])), (qab, .inl (cA, 6000, .inl (fun _ => 0))), (qmta, .inl (cA, 60, .inl (fun _ => 0))), (qmtb, .inl (cA, 60, .inl (fun _ => 0))), (qmtc, .inl (cA, 60, .inl (fun _ => 0))), (qmtd, .inl (cA, 60, .inl (fun _ => 0))), (qmsa, .inl (cA, 60, .inl (fun _ => 0))), (qmsb, .inl (cA, 60, .inl (fun _ => 0))), (qmsc, .inl (cA, 60, .inl (fun _ => 0))), (qmsd, .inl (cA, 60, .inl (fun _ => 0))), (qmi, .inl (cA, 4096, .inl o0_1))] := hD
  refine lv_aload_n hx hb dX8_assemble_7 rfl (lv_at hl 0 rfl) ?_
  refine k_get (C := RX8) (T := TX8) (N := 9) (ci := 8) (v := .ref qm) X hE hP 0 rfl rfl iX8 7 (by decide) w_103 rfl dX8_assemble_8 ?_
  refine lv_iconst (v := 0) hx hb dX8_assemble_11 (by decide) ?_
  refine kVi (n3 := 1) (As := [.int 0]) (rest := []) X hl.1 hE hP hD hS hA [(qm, .inr (0, [.ref qa, .ref qmi, .ref qmt, .ref qms, .int 0, .int (-1), .int 0, .int 0, .int 0, .int 0, .int 0, .int 0, .int 0, .int 0, .int 0, .int 0, .int 0, .int 0])), (qa, .inr (7, [.ref qab, .int 0, .int 0, .int 0, .int 0, .int 0, .int 0, .int 0, .int 0])), (qmi, .inl (cA, 4096, .inl o0_1)), (qmt, .inr (2, [.ref qmta, .ref qmtb, .ref qmtc, .ref qmtd, .int 0])), (qms, .inr (2, [.ref qmsa, .ref qmsb, .ref qmsc, .ref qmsd, .int 0])), (qab, .inl (cA, 6000, .inl (fun _ => 0))), (qmta, .inl (cA, 60, .inl (fun _ => 0))), (qmtb, .inl (cA, 60, .inl (fun _ => 0))), (qmtc, .inl (cA, 60, .inl (fun _ => 0))), (qmtd, .inl (cA, 60, .inl (fun _ => 0))), (qmsa, .inl (cA, 60, .inl (fun _ => 0))), (qmsb, .inl (cA, 60, .inl (fun _ => 0))), (qmsc, .inl (cA, 60, .inl (fun _ => 0))), (qmsd, .inl (cA, 60, .inl (fun _ => 0)))] [(h0, .inr (8, [.ref qn, .ref qs, .ref qd, .ref qp, .ref qr, .ref qt, .ref qa, .ref qm, .ref qe])), (qn, .inl (cA, 34, .inl f)), (qs, .inl (cA, 4096, .inl (fun _ => 0))), (qp, .inr (3, [.ref qpe, .int 0, .int 0])), (qr, .inr (4, [.ref qn, .ref qs, .ref qd, .ref qp, .ref qrc, .int 0, .int 0])), (qrc, .inl (cA, 257, .inl gc))] [6, 7, 19, 8, 9, 10, 11, 12, 13, 14, 15, 16, 17, 18] [0, 1, 2, 3, 4, 5] rfl rfl rfl (by decide) (by decide) (by decide) (c_X0_readLines_a2 l D cA cB qm qa qmi qmt qms qab o0_1 qmta qmtb qmtc qmtd qmsa qmsb qmsc qmsd hf_2) w_283 w_99 w_282 w_284 w_285 0 (ci := 0) (T := TX0) (N := 18) rfl rfl (by decide +kernel) rfl rfl (Nat.le_of_ble_eq_true rfl) ⟨(Nat.le_of_ble_eq_true rfl), (Nat.le_of_ble_eq_true rfl)⟩ ⟨(Nat.le_of_ble_eq_true rfl), (Nat.le_of_ble_eq_true rfl)⟩ dX8_assemble_12 (fun r W1 H locs hw hP hD hS => ?_)
  obtain ⟨rfl, rfl⟩ := hw
  have hP : va_P D classes [(h0, .inr (8, [.ref qn, .ref qs, .ref qd, .ref qp, .ref qr, .ref qt, .ref qa, .ref qm, .ref qe])), (qn, .inl (cA, 34, .inl f)), (qs, .inl (cA, 4096, .inl (fun _ => 0))), (qp, .inr (3, [.ref qpe, .int 0, .int 0])), (qr, .inr (4, [.ref qn, .ref qs, .ref qd, .ref qp, .ref qrc, .int 0, .int 0])), (qrc, .inl (cA, 257, .inl gc)), (qm, .inr (0, [.ref qa, .ref qmi, .ref qmt, .ref qms, .int 0, .int (-1), .int 0, .int 0, .int (-1), .int 0, .int 0, .int (-1), .int 0, .int 0, .int 0, .int 0, .int (-1), .int (-1)])), (qa, .inr (7, [.ref qab, .int 0, .int 0, .int 0, .int 256, .int 0, .int 0, .int 0, .int (-1)])), (qmi, .inl (cA, 4096, .inl o0_1)), (qmt, .inr (2, [.ref qmta, .ref qmtb, .ref qmtc, .ref qmtd, .int 0])), (qms, .inr (2, [.ref qmsa, .ref qmsb, .ref qmsc, .ref qmsd, .int 0])), (qab, .inl (cA, 6000, .inl (fun _ => 0))), (qmta, .inl (cA, 60, .inl (fun _ => 0))), (qmtb, .inl (cA, 60, .inl (fun _ => 0))), (qmtc, .inl (cA, 60, .inl (fun _ => 0))), (qmtd, .inl (cA, 60, .inl (fun _ => 0))), (qmsa, .inl (cA, 60, .inl (fun _ => 0))), (qmsb, .inl (cA, 60, .inl (fun _ => 0))), (qmsc, .inl (cA, 60, .inl (fun _ => 0))), (qmsd, .inl (cA, 60, .inl (fun _ => 0)))] H := hP
  have hD : va_D A [(h0, .inr (8, [.ref qn, .ref qs, .ref qd, .ref qp, .ref qr, .ref qt, .ref qa, .ref qm, .ref qe])), (qn, .inl (cA, 34, .inl f)), (qs, .inl (cA, 4096, .inl (fun _ => 0))), (qp, .inr (3, [.ref qpe, .int 0, .int 0])), (qr, .inr (4, [.ref qn, .ref qs, .ref qd, .ref qp, .ref qrc, .int 0, .int 0])), (qrc, .inl (cA, 257, .inl gc)), (qm, .inr (0, [.ref qa, .ref qmi, .ref qmt, .ref qms, .int 0, .int (-1), .int 0, .int 0, .int (-1), .int 0, .int 0, .int (-1), .int 0, .int 0, .int 0, .int 0, .int (-1), .int (-1)])), (qa, .inr (7, [.ref qab, .int 0, .int 0, .int 0, .int 256, .int 0, .int 0, .int 0, .int (-1)])), (qmi, .inl (cA, 4096, .inl o0_1)), (qmt, .inr (2, [.ref qmta, .ref qmtb, .ref qmtc, .ref qmtd, .int 0])), (qms, .inr (2, [.ref qmsa, .ref qmsb, .ref qmsc, .ref qmsd, .int 0])), (qab, .inl (cA, 6000, .inl (fun _ => 0))), (qmta, .inl (cA, 60, .inl (fun _ => 0))), (qmtb, .inl (cA, 60, .inl (fun _ => 0))), (qmtc, .inl (cA, 60, .inl (fun _ => 0))), (qmtd, .inl (cA, 60, .inl (fun _ => 0))), (qmsa, .inl (cA, 60, .inl (fun _ => 0))), (qmsb, .inl (cA, 60, .inl (fun _ => 0))), (qmsc, .inl (cA, 60, .inl (fun _ => 0))), (qmsd, .inl (cA, 60, .inl (fun _ => 0)))] := hD
  refine lv_if_eq (tgt := 33) hx hb dX8_assemble_15 (by decide) (fun c_15 => absurd c_15 (by decide)) (fun c_15 => ?_)
  refine lv_aload_n hx hb dX8_assemble_18 rfl (lv_at hl 0 rfl) ?_
  refine k_get (C := RX8) (T := TX8) (N := 9) (ci := 8) (v := .ref qm) X hE hP 0 rfl rfl iX8 7 (by decide) w_103 rfl dX8_assemble_19 ?_
  refine lv_iconst (v := 1) hx hb dX8_assemble_22 (by decide) ?_
  refine kVi (n3 := 1) (As := [.int 1]) (rest := []) X hl.1 hE hP hD hS hA [(qm, .inr (0, [.ref qa, .ref qmi, .ref qmt, .ref qms, .int 0, .int (-1), .int 0, .int 0, .int (-1), .int 0, .int 0, .int (-1), .int 0, .int 0, .int 0, .int 0, .int (-1), .int (-1)])), (qa, .inr (7, [.ref qab, .int 0, .int 0, .int 0, .int 256, .int 0, .int 0, .int 0, .int (-1)])), (qmi, .inl (cA, 4096, .inl o0_1)), (qmt, .inr (2, [.ref qmta, .ref qmtb, .ref qmtc, .ref qmtd, .int 0])), (qms, .inr (2, [.ref qmsa, .ref qmsb, .ref qmsc, .ref qmsd, .int 0])), (qab, .inl (cA, 6000, .inl (fun _ => 0))), (qmta, .inl (cA, 60, .inl (fun _ => 0))), (qmtb, .inl (cA, 60, .inl (fun _ => 0))), (qmtc, .inl (cA, 60, .inl (fun _ => 0))), (qmtd, .inl (cA, 60, .inl (fun _ => 0))), (qmsa, .inl (cA, 60, .inl (fun _ => 0))), (qmsb, .inl (cA, 60, .inl (fun _ => 0))), (qmsc, .inl (cA, 60, .inl (fun _ => 0))), (qmsd, .inl (cA, 60, .inl (fun _ => 0)))] [(h0, .inr (8, [.ref qn, .ref qs, .ref qd, .ref qp, .ref qr, .ref qt, .ref qa, .ref qm, .ref qe])), (qn, .inl (cA, 34, .inl f)), (qs, .inl (cA, 4096, .inl (fun _ => 0))), (qp, .inr (3, [.ref qpe, .int 0, .int 0])), (qr, .inr (4, [.ref qn, .ref qs, .ref qd, .ref qp, .ref qrc, .int 0, .int 0])), (qrc, .inl (cA, 257, .inl gc))] [6, 7, 8, 9, 10, 11, 12, 13, 14, 15, 16, 17, 18, 19] [0, 1, 2, 3, 4, 5] rfl rfl rfl (by decide) (by decide) (by decide) (c_X0_readLines_a11 l D cA cB qm qa qmi qmt qms qab o0_1 qmta qmtb qmtc qmtd qmsa qmsb qmsc qmsd hf_2) w_283 w_99 w_282 w_284 w_285 0 (ci := 0) (T := TX0) (N := 18) rfl rfl (by decide +kernel) rfl rfl (Nat.le_of_ble_eq_true rfl) ⟨(Nat.le_of_ble_eq_true rfl), (Nat.le_of_ble_eq_true rfl)⟩ ⟨(Nat.le_of_ble_eq_true rfl), (Nat.le_of_ble_eq_true rfl)⟩ dX8_assemble_23 (fun r W1 H locs hw hP hD hS => ?_)
  obtain ⟨rfl, rfl⟩ := hw
  have hP : va_P D classes [(h0, .inr (8, [.ref qn, .ref qs, .ref qd, .ref qp, .ref qr, .ref qt, .ref qa, .ref qm, .ref qe])), (qn, .inl (cA, 34, .inl f)), (qs, .inl (cA, 4096, .inl (fun _ => 0))), (qp, .inr (3, [.ref qpe, .int 0, .int 0])), (qr, .inr (4, [.ref qn, .ref qs, .ref qd, .ref qp, .ref qrc, .int 0, .int 0])), (qrc, .inl (cA, 257, .inl gc)), (qm, .inr (0, [.ref qa, .ref qmi, .ref qmt, .ref qms, .int 0, .int (-1), .int 0, .int 1, .int (-1), .int 0, .int 0, .int (-1), .int 0, .int 0, .int 0, .int 0, .int (-1), .int (-1)])), (qa, .inr (7, [.ref qab, .int 0, .int 0, .int 0, .int 256, .int 0, .int 0, .int 0, .int (-1)])), (qmi, .inl (cA, 4096, .inl o0_1)), (qmt, .inr (2, [.ref qmta, .ref qmtb, .ref qmtc, .ref qmtd, .int 0])), (qms, .inr (2, [.ref qmsa, .ref qmsb, .ref qmsc, .ref qmsd, .int 0])), (qab, .inl (cA, 6000, .inl (fun _ => 0))), (qmta, .inl (cA, 60, .inl (fun _ => 0))), (qmtb, .inl (cA, 60, .inl (fun _ => 0))), (qmtc, .inl (cA, 60, .inl (fun _ => 0))), (qmtd, .inl (cA, 60, .inl (fun _ => 0))), (qmsa, .inl (cA, 60, .inl (fun _ => 0))), (qmsb, .inl (cA, 60, .inl (fun _ => 0))), (qmsc, .inl (cA, 60, .inl (fun _ => 0))), (qmsd, .inl (cA, 60, .inl (fun _ => 0)))] H := hP
  have hD : va_D A [(h0, .inr (8, [.ref qn, .ref qs, .ref qd, .ref qp, .ref qr, .ref qt, .ref qa, .ref qm, .ref qe])), (qn, .inl (cA, 34, .inl f)), (qs, .inl (cA, 4096, .inl (fun _ => 0))), (qp, .inr (3, [.ref qpe, .int 0, .int 0])), (qr, .inr (4, [.ref qn, .ref qs, .ref qd, .ref qp, .ref qrc, .int 0, .int 0])), (qrc, .inl (cA, 257, .inl gc)), (qm, .inr (0, [.ref qa, .ref qmi, .ref qmt, .ref qms, .int 0, .int (-1), .int 0, .int 1, .int (-1), .int 0, .int 0, .int (-1), .int 0, .int 0, .int 0, .int 0, .int (-1), .int (-1)])), (qa, .inr (7, [.ref qab, .int 0, .int 0, .int 0, .int 256, .int 0, .int 0, .int 0, .int (-1)])), (qmi, .inl (cA, 4096, .inl o0_1)), (qmt, .inr (2, [.ref qmta, .ref qmtb, .ref qmtc, .ref qmtd, .int 0])), (qms, .inr (2, [.ref qmsa, .ref qmsb, .ref qmsc, .ref qmsd, .int 0])), (qab, .inl (cA, 6000, .inl (fun _ => 0))), (qmta, .inl (cA, 60, .inl (fun _ => 0))), (qmtb, .inl (cA, 60, .inl (fun _ => 0))), (qmtc, .inl (cA, 60, .inl (fun _ => 0))), (qmtd, .inl (cA, 60, .inl (fun _ => 0))), (qmsa, .inl (cA, 60, .inl (fun _ => 0))), (qmsb, .inl (cA, 60, .inl (fun _ => 0))), (qmsc, .inl (cA, 60, .inl (fun _ => 0))), (qmsd, .inl (cA, 60, .inl (fun _ => 0)))] := hD
  refine lv_if_eq (tgt := 33) hx hb dX8_assemble_26 (by decide) (fun c_26 => absurd c_26 (by decide)) (fun c_26 => ?_)
  refine lv_iconst (v := 1) hx hb dX8_assemble_29 (by decide) ?_
  refine lv_goto (tgt := 34) hx hb dX8_assemble_30 (by decide) ?_
  refine lv_istore_n (lv' := [(1, .int 1), (0, .ref h0)]) hx hb dX8_assemble_34 rfl hl (by decide) rfl (fun ls hl => ?_)
  refine lv_aload_n hx hb dX8_assemble_35 rfl (lv_at hl 1 rfl) ?_
  refine k_get (C := RX8) (T := TX8) (N := 9) (ci := 8) (v := .ref qa) X hE hP 0 rfl rfl iX8 6 (by decide) w_96 rfl dX8_assemble_36 ?_
  refine lv_iconst (v := 0) hx hb dX8_assemble_39 (by decide) ?_
  refine k_putN (C := RX7) (T := TX7) (N := 9) (ci := 7) (v := .int 0) (ty := .int) X hE hP hD hS 7 rfl rfl iX7 tyX7 tyX7_ok nmX7 1 (by decide) nw_12 rfl (by decide +kernel) rfl rfl (Nat.le_of_ble_eq_true rfl) [(h0, .inr (8, [.ref qn, .ref qs, .ref qd, .ref qp, .ref qr, .ref qt, .ref qa, .ref qm, .ref qe])), (qn, .inl (cA, 34, .inl f)), (qs, .inl (cA, 4096, .inl (fun _ => 0))), (qp, .inr (3, [.ref qpe, .int 0, .int 0])), (qr, .inr (4, [.ref qn, .ref qs, .ref qd, .ref qp, .ref qrc, .int 0, .int 0])), (qrc, .inl (cA, 257, .inl gc)), (qm, .inr (0, [.ref qa, .ref qmi, .ref qmt, .ref qms, .int 0, .int (-1), .int 0, .int 1, .int (-1), .int 0, .int 0, .int (-1), .int 0, .int 0, .int 0, .int 0, .int (-1), .int (-1)])), (qa, .inr (7, [.ref qab, .int 0, .int 0, .int 0, .int 256, .int 0, .int 0, .int 0, .int (-1)])), (qmi, .inl (cA, 4096, .inl o0_1)), (qmt, .inr (2, [.ref qmta, .ref qmtb, .ref qmtc, .ref qmtd, .int 0])), (qms, .inr (2, [.ref qmsa, .ref qmsb, .ref qmsc, .ref qmsd, .int 0])), (qab, .inl (cA, 6000, .inl (fun _ => 0))), (qmta, .inl (cA, 60, .inl (fun _ => 0))), (qmtb, .inl (cA, 60, .inl (fun _ => 0))), (qmtc, .inl (cA, 60, .inl (fun _ => 0))), (qmtd, .inl (cA, 60, .inl (fun _ => 0))), (qmsa, .inl (cA, 60, .inl (fun _ => 0))), (qmsb, .inl (cA, 60, .inl (fun _ => 0))), (qmsc, .inl (cA, 60, .inl (fun _ => 0))), (qmsd, .inl (cA, 60, .inl (fun _ => 0)))] rfl dX8_assemble_40 (fun H locs hP hD hS => ?_)
  refine lv_iload_n hx hb dX8_assemble_43 rfl (lv_at hl 0 rfl) ?_
  refine lv_if_ne (tgt := 49) hx hb dX8_assemble_44 (by decide) (fun c_44 => ?_) (fun c_44 => absurd c_44 (by decide))
  refine lv_aload_n hx hb dX8_assemble_49 rfl (lv_at hl 1 rfl) ?_
  refine k_get (C := RX8) (T := TX8) (N := 9) (ci := 8) (v := .ref qm) X hE hP 0 rfl rfl iX8 7 (by decide) w_103 rfl dX8_assemble_50 ?_
  refine lv_aload_n hx hb dX8_assemble_53 rfl (lv_at hl 1 rfl) ?_
  refine k_get (C := RX8) (T := TX8) (N := 9) (ci := 8) (v := .ref qs) X hE hP 0 rfl rfl iX8 1 (by decide) w_66 rfl dX8_assemble_54 ?_
  refine kVv (n3 := 1) (As := [.ref qs]) (rest := []) X hl.1 hE hP hD hS hA [(qm, .inr (0, [.ref qa, .ref qmi, .ref qmt, .ref qms, .int 0, .int (-1), .int 0, .int 1, .int (-1), .int 0, .int 0, .int (-1), .int 0, .int 0, .int 0, .int 0, .int (-1), .int (-1)])), (qs, .inl (cA, 4096, .inl (fun _ => 0))), (qa, .inr (7, [.ref qab, .int 0, .int 0, .int 0, .int 256, .int 0, .int 0, .int 0, .int (-1)])), (qmi, .inl (cA, 4096, .inl o0_1)), (qmt, .inr (2, [.ref qmta, .ref qmtb, .ref qmtc, .ref qmtd, .int 0])), (qms, .inr (2, [.ref qmsa, .ref qmsb, .ref qmsc, .ref qmsd, .int 0])), (qab, .inl (cA, 6000, .inl (fun _ => 0))), (qmta, .inl (cA, 60, .inl (fun _ => 0))), (qmtb, .inl (cA, 60, .inl (fun _ => 0))), (qmtc, .inl (cA, 60, .inl (fun _ => 0))), (qmtd, .inl (cA, 60, .inl (fun _ => 0))), (qmsa, .inl (cA, 60, .inl (fun _ => 0))), (qmsb, .inl (cA, 60, .inl (fun _ => 0))), (qmsc, .inl (cA, 60, .inl (fun _ => 0))), (qmsd, .inl (cA, 60, .inl (fun _ => 0)))] [(h0, .inr (8, [.ref qn, .ref qs, .ref qd, .ref qp, .ref qr, .ref qt, .ref qa, .ref qm, .ref qe])), (qn, .inl (cA, 34, .inl f)), (qp, .inr (3, [.ref qpe, .int 0, .int 0])), (qr, .inr (4, [.ref qn, .ref qs, .ref qd, .ref qp, .ref qrc, .int 0, .int 0])), (qrc, .inl (cA, 257, .inl gc))] [6, 2, 7, 8, 9, 10, 11, 12, 13, 14, 15, 16, 17, 18, 19] [0, 1, 3, 4, 5] rfl rfl rfl (by decide) (by decide) (by decide) (c_X0_settle_a20 l D cA cB qm qs qa qmi qmt qms qab o0_1 qmta qmtb qmtc qmtd qmsa qmsb qmsc qmsd hf_2) w_292 w_99 w_291 w_293 w_294 0 (ci := 0) (T := TX0) (N := 18) rfl rfl (by decide +kernel) rfl rfl (Nat.le_of_ble_eq_true rfl) ⟨(Nat.le_of_ble_eq_true rfl), (Nat.le_of_ble_eq_true rfl)⟩ ⟨(Nat.le_of_ble_eq_true rfl), (Nat.le_of_ble_eq_true rfl)⟩ dX8_assemble_57 (fun W1 H locs hw hP hD hS => ?_)
  obtain ⟨o0_3, rfl⟩ := hw
  have hP : va_P D classes [(h0, .inr (8, [.ref qn, .ref qs, .ref qd, .ref qp, .ref qr, .ref qt, .ref qa, .ref qm, .ref qe])), (qn, .inl (cA, 34, .inl f)), (qp, .inr (3, [.ref qpe, .int 0, .int 0])), (qr, .inr (4, [.ref qn, .ref qs, .ref qd, .ref qp, .ref qrc, .int 0, .int 0])), (qrc, .inl (cA, 257, .inl gc)), (qm, .inr (0, [.ref qa, .ref qmi, .ref qms, .ref qmt, .int 0, .int (-1), .int 0, .int 1, .int (-1), .int 0, .int 0, .int (-1), .int 0, .int 0, .int 0, .int 0, .int (-1), .int (-1)])), (qs, .inl (cA, 4096, .inl o0_3)), (qa, .inr (7, [.ref qab, .int 0, .int 0, .int 0, .int 256, .int 0, .int 0, .int 0, .int (-1)])), (qmi, .inl (cA, 4096, .inl o0_1)), (qmt, .inr (2, [.ref qmta, .ref qmtb, .ref qmtc, .ref qmtd, .int 0])), (qms, .inr (2, [.ref qmsa, .ref qmsb, .ref qmsc, .ref qmsd, .int 0])), (qab, .inl (cA, 6000, .inl (fun _ => 0))), (qmta, .inl (cA, 60, .inl (fun _ => 0))), (qmtb, .inl (cA, 60, .inl (fun _ => 0))), (qmtc, .inl (cA, 60, .inl (fun _ => 0))), (qmtd, .inl (cA, 60, .inl (fun _ => 0))), (qmsa, .inl (cA, 60, .inl (fun _ => 0))), (qmsb, .inl (cA, 60, .inl (fun _ => 0))), (qmsc, .inl (cA, 60, .inl (fun _ => 0))), (qmsd, .inl (cA, 60, .inl (fun _ => 0)))] H := hP
  have hD : va_D A [(h0, .inr (8, [.ref qn, .ref qs, .ref qd, .ref qp, .ref qr, .ref qt, .ref qa, .ref qm, .ref qe])), (qn, .inl (cA, 34, .inl f)), (qp, .inr (3, [.ref qpe, .int 0, .int 0])), (qr, .inr (4, [.ref qn, .ref qs, .ref qd, .ref qp, .ref qrc, .int 0, .int 0])), (qrc, .inl (cA, 257, .inl gc)), (qm, .inr (0, [.ref qa, .ref qmi, .ref qms, .ref qmt, .int 0, .int (-1), .int 0, .int 1, .int (-1), .int 0, .int 0, .int (-1), .int 0, .int 0, .int 0, .int 0, .int (-1), .int (-1)])), (qs, .inl (cA, 4096, .inl o0_3)), (qa, .inr (7, [.ref qab, .int 0, .int 0, .int 0, .int 256, .int 0, .int 0, .int 0, .int (-1)])), (qmi, .inl (cA, 4096, .inl o0_1)), (qmt, .inr (2, [.ref qmta, .ref qmtb, .ref qmtc, .ref qmtd, .int 0])), (qms, .inr (2, [.ref qmsa, .ref qmsb, .ref qmsc, .ref qmsd, .int 0])), (qab, .inl (cA, 6000, .inl (fun _ => 0))), (qmta, .inl (cA, 60, .inl (fun _ => 0))), (qmtb, .inl (cA, 60, .inl (fun _ => 0))), (qmtc, .inl (cA, 60, .inl (fun _ => 0))), (qmtd, .inl (cA, 60, .inl (fun _ => 0))), (qmsa, .inl (cA, 60, .inl (fun _ => 0))), (qmsb, .inl (cA, 60, .inl (fun _ => 0))), (qmsc, .inl (cA, 60, .inl (fun _ => 0))), (qmsd, .inl (cA, 60, .inl (fun _ => 0)))] := hD
  refine lv_aload_n hx hb dX8_assemble_60 rfl (lv_at hl 1 rfl) ?_
  refine k_get (C := RX8) (T := TX8) (N := 9) (ci := 8) (v := .ref qr) X hE hP 0 rfl rfl iX8 4 (by decide) w_84 rfl dX8_assemble_61 ?_
  refine kVv (n3 := 0) (As := []) (rest := []) X hl.1 hE hP hD hS hA [(qr, .inr (4, [.ref qn, .ref qs, .ref qd, .ref qp, .ref qrc, .int 0, .int 0])), (qn, .inl (cA, 34, .inl f)), (qs, .inl (cA, 4096, .inl o0_3)), (qrc, .inl (cA, 257, .inl gc)), (qp, .inr (3, [.ref qpe, .int 0, .int 0]))] [(h0, .inr (8, [.ref qn, .ref qs, .ref qd, .ref qp, .ref qr, .ref qt, .ref qa, .ref qm, .ref qe])), (qm, .inr (0, [.ref qa, .ref qmi, .ref qms, .ref qmt, .int 0, .int (-1), .int 0, .int 1, .int (-1), .int 0, .int 0, .int (-1), .int 0, .int 0, .int 0, .int 0, .int (-1), .int (-1)])), (qa, .inr (7, [.ref qab, .int 0, .int 0, .int 0, .int 256, .int 0, .int 0, .int 0, .int (-1)])), (qmi, .inl (cA, 4096, .inl o0_1)), (qmt, .inr (2, [.ref qmta, .ref qmtb, .ref qmtc, .ref qmtd, .int 0])), (qms, .inr (2, [.ref qmsa, .ref qmsb, .ref qmsc, .ref qmsd, .int 0])), (qab, .inl (cA, 6000, .inl (fun _ => 0))), (qmta, .inl (cA, 60, .inl (fun _ => 0))), (qmtb, .inl (cA, 60, .inl (fun _ => 0))), (qmtc, .inl (cA, 60, .inl (fun _ => 0))), (qmtd, .inl (cA, 60, .inl (fun _ => 0))), (qmsa, .inl (cA, 60, .inl (fun _ => 0))), (qmsb, .inl (cA, 60, .inl (fun _ => 0))), (qmsc, .inl (cA, 60, .inl (fun _ => 0))), (qmsd, .inl (cA, 60, .inl (fun _ => 0)))] [3, 1, 6, 4, 2] [0, 5, 7, 8, 9, 10, 11, 12, 13, 14, 15, 16, 17, 18, 19] rfl rfl rfl (by decide) (by decide) (by decide) (c_beginAnew l D cA cB qr qn qs qd qp qrc 0 0 qpe 0 0 f o0_3 gc ) w_111 w_44 w_110 w_112 w_113 0 (ci := 4) (T := TX4) (N := 7) rfl rfl (by decide +kernel) rfl rfl (Nat.le_of_ble_eq_true rfl) ⟨(Nat.le_of_ble_eq_true rfl), (Nat.le_of_ble_eq_true rfl)⟩ ⟨(Nat.le_of_ble_eq_true rfl), (Nat.le_of_ble_eq_true rfl)⟩ dX8_assemble_64 (fun W1 H locs hw hP hD hS => ?_)
  obtain ⟨g_4, g2_5, hf_6, hf_7, rfl⟩ := hw
  have hP : va_P D classes [(h0, .inr (8, [.ref qn, .ref qs, .ref qd, .ref qp, .ref qr, .ref qt, .ref qa, .ref qm, .ref qe])), (qm, .inr (0, [.ref qa, .ref qmi, .ref qms, .ref qmt, .int 0, .int (-1), .int 0, .int 1, .int (-1), .int 0, .int 0, .int (-1), .int 0, .int 0, .int 0, .int 0, .int (-1), .int (-1)])), (qa, .inr (7, [.ref qab, .int 0, .int 0, .int 0, .int 256, .int 0, .int 0, .int 0, .int (-1)])), (qmi, .inl (cA, 4096, .inl o0_1)), (qmt, .inr (2, [.ref qmta, .ref qmtb, .ref qmtc, .ref qmtd, .int 0])), (qms, .inr (2, [.ref qmsa, .ref qmsb, .ref qmsc, .ref qmsd, .int 0])), (qab, .inl (cA, 6000, .inl (fun _ => 0))), (qmta, .inl (cA, 60, .inl (fun _ => 0))), (qmtb, .inl (cA, 60, .inl (fun _ => 0))), (qmtc, .inl (cA, 60, .inl (fun _ => 0))), (qmtd, .inl (cA, 60, .inl (fun _ => 0))), (qmsa, .inl (cA, 60, .inl (fun _ => 0))), (qmsb, .inl (cA, 60, .inl (fun _ => 0))), (qmsc, .inl (cA, 60, .inl (fun _ => 0))), (qmsd, .inl (cA, 60, .inl (fun _ => 0))), (qr, .inr (4, [.ref qn, .ref qs, .ref qd, .ref qp, .ref qrc, .int 0, .int 0])), (qn, .inl (cA, 34, .inl (upd (upd (upd (upd (upd (upd (upd (upd g_4 18 1) 0 0) 1 0) 2 0) 3 255) 5 4) 4 (((o0_3 4078) + (256 * (o0_3 4079))) &&& 4095)) 6 0))), (qs, .inl (cA, 4096, .inl o0_3)), (qrc, .inl (cA, 257, .inl g2_5)), (qp, .inr (3, [.ref qpe, .int 0, .int 0]))] H := hP
  have hD : va_D A [(h0, .inr (8, [.ref qn, .ref qs, .ref qd, .ref qp, .ref qr, .ref qt, .ref qa, .ref qm, .ref qe])), (qm, .inr (0, [.ref qa, .ref qmi, .ref qms, .ref qmt, .int 0, .int (-1), .int 0, .int 1, .int (-1), .int 0, .int 0, .int (-1), .int 0, .int 0, .int 0, .int 0, .int (-1), .int (-1)])), (qa, .inr (7, [.ref qab, .int 0, .int 0, .int 0, .int 256, .int 0, .int 0, .int 0, .int (-1)])), (qmi, .inl (cA, 4096, .inl o0_1)), (qmt, .inr (2, [.ref qmta, .ref qmtb, .ref qmtc, .ref qmtd, .int 0])), (qms, .inr (2, [.ref qmsa, .ref qmsb, .ref qmsc, .ref qmsd, .int 0])), (qab, .inl (cA, 6000, .inl (fun _ => 0))), (qmta, .inl (cA, 60, .inl (fun _ => 0))), (qmtb, .inl (cA, 60, .inl (fun _ => 0))), (qmtc, .inl (cA, 60, .inl (fun _ => 0))), (qmtd, .inl (cA, 60, .inl (fun _ => 0))), (qmsa, .inl (cA, 60, .inl (fun _ => 0))), (qmsb, .inl (cA, 60, .inl (fun _ => 0))), (qmsc, .inl (cA, 60, .inl (fun _ => 0))), (qmsd, .inl (cA, 60, .inl (fun _ => 0))), (qr, .inr (4, [.ref qn, .ref qs, .ref qd, .ref qp, .ref qrc, .int 0, .int 0])), (qn, .inl (cA, 34, .inl (upd (upd (upd (upd (upd (upd (upd (upd g_4 18 1) 0 0) 1 0) 2 0) 3 255) 5 4) 4 (((o0_3 4078) + (256 * (o0_3 4079))) &&& 4095)) 6 0))), (qs, .inl (cA, 4096, .inl o0_3)), (qrc, .inl (cA, 257, .inl g2_5)), (qp, .inr (3, [.ref qpe, .int 0, .int 0]))] := hD
  refine lv_aload_n hx hb dX8_assemble_67 rfl (lv_at hl 1 rfl) ?_
  refine k_get (C := RX8) (T := TX8) (N := 9) (ci := 8) (v := .ref qm) X hE hP 0 rfl rfl iX8 7 (by decide) w_103 rfl dX8_assemble_68 ?_
  refine k_getN (C := RX0) (T := TX0) (N := 18) (ci := 0) (v := .int 0) X hE hP 1 rfl rfl iX0 6 (by decide) nw_27 rfl dX8_assemble_71 ?_
  exact endI X hr hlocks hP hD hS dX8_assemble_74 rfl
end
